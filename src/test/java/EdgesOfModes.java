/** MODES AND PROCESSES: CHM, REI's refusals one by one, PROBE, and process blocks at memory's end. */
public final class EdgesOfModes {
    private static final int CODE = Trial.CODE;
    private static final int DATA = Trial.DATA;
    private static final int STACK = Trial.STACK;
    private static final int HANDLER = Trial.HANDLER;
    private static final int END = Trial.END;
    private static final int S = Trial.S;
    private static final int RESERVED = 24;
    private static final int CHECK = 4;
    private static final int INTERRUPTS = 4;

    private static Trial stacks(Trial t) {
        for (int k = 0; k < 4; k++) {
            t.special(k, STACK - 0x100 * k);
        }
        return t;
    }

    private static void changes() {
        Bench.part("CHM");
        for (int from = 0; from < 4; from++) {
            for (int k = 0; k < 4; k++) {
                for (int bits = 0; bits < 4; bits++) {
                    int to = Math.min(from, k);
                    int old = from << 24 | 0x00850000 | 0xEF;
                    Trial t = stacks(Trial.of("CHM " + k + " from " + from, 0xBC + k, Bench.w(0x8000))).vector(64 + 4 * k, HANDLER + 0x40 | bits);
                    t.x.set(16, old);
                    t.run(1).pushed(64 + 4 * k, CODE + 4, old, 0xFFFF8000).is(15, HANDLER + 0x40).is(14, STACK - 0x100 * to - 12);
                    t.is(16, to << 24 | from << 22 | 0x00050000).state(7, 1).state(2, 1);
                    if (from != to) {
                        t.reads(from, STACK - 0x100 * from);
                    }
                }
            }
        }
        Trial.of("the greatest code", 0xBC, Bench.w(0x7FFF)).run(1).pushed(64, CODE + 4, 0, 0x7FFF);
        for (int mode = 0; mode < 4; mode++) {
            Trial.of("on the interrupt stack", 0xBC, 0x81).status(0x04000000 | mode << 24).reg(1, DATA).reg(14, 500).run(1).state(0, 2).state(7, 1)
                .state(2, 0).state(3, 0).is(15, CODE + 2).is(1, DATA + 2).is(14, 500);
        }
        Trial.of("just enough stack", 0xBC, 0x05).reg(14, 12).run(1).pushed(64, CODE + 2, 0, 5).is(14, 0);
        Trial.of("not enough", 0xBC, 0x05).reg(14, 11).run(1).pushed(8, CODE + 2, 0).is(16, 0x041F0000).reads(0, 11).state(7, 1).state(2, 1);
        Trial.of("no vector", 0xBC, 0x05).special(17, END).run(1).state(0, 2).state(2, 0).is(15, CODE + 2);
        int[] writers = {-1, -1, 0, -1, 3, 1, 0, -1, 2, 1, 0, -1, 2, 1, 0, -1};
        for (int mode = 0; mode < 4; mode++) {
            for (int code = 0; code < 16; code++) {
                Trial t = Trial.mapped("in the new mode " + mode + ", code " + code, 0xBC + mode, 0x05);
                t.longs(Trial.PROCESS_TABLE, 1 << 31 | code << 27 | 16);
                t.special(mode, 512);
                t.x.set(16, 0x03000000);
                t.run(1);
                if (mode <= writers[code]) {
                    t.state(3, 64 + 4 * mode).holds(17 * 512 - 12, 4, 5);
                } else {
                    t.state(3, 8).holds(17 * 512 - 12, 8, 0).is(16, 0x04DF0000);
                }
            }
        }
    }

    /** REI on the stack of a STATUS, with what lies on it: whether it is refused. */
    private static Trial back(String what, int now, int popped) {
        Trial t = stacks(Trial.of(what, 0x02)).longs(DATA, 0x1234, popped).special(INTERRUPTS, 0x2700).special(19, 4);
        t.x.set(16, now);
        return t.reg(14, DATA).run(1);
    }

    private static void refuses(String what, int now, int popped) {
        back("REI refuses " + what, now, popped).state(7, 0).state(3, RESERVED).state(2, 1).reads(21, 0);
        Trial t = back("REI refuses " + what, now, popped);
        boolean was = (now & 0x04000000) != 0;
        if (!was) {
            t.reads(now >> 24 & 3, DATA);
        }
    }

    private static void takes(String what, int now, int popped) {
        int mode = popped >> 24 & 3;
        Trial t = back("REI takes " + what, now, popped).fine().is(15, 0x1234).is(16, popped);
        boolean sameStack = ((now ^ popped) & 0x07000000) == 0;
        t.is(14, sameStack ? DATA + 8 : STACK - 0x100 * mode);
        t.reads((now & 0x04000000) != 0 ? INTERRUPTS : now >> 24 & 3, DATA + 8);
    }

    private static void returns() {
        Bench.part("REI");
        for (int from = 0; from < 4; from++) {
            for (int to = 0; to < 4; to++) {
                for (int previous = 0; previous < 4; previous++) {
                    int popped = to << 24 | previous << 22;
                    if (to >= from && previous >= to) {
                        takes("mode " + to + " of " + previous + " from " + from, from << 24, popped);
                    } else {
                        refuses("mode " + to + " of " + previous + " from " + from, from << 24, popped);
                    }
                }
            }
        }
        for (int bit = 0; bit < 32; bit++) {
            boolean always = bit >= 8 && bit < 16 || bit == 21 || bit == 28 || bit == 29 || bit == 31;
            if (always) {
                refuses("bit " + bit, 0, 1 << bit);
                refuses("bit " + bit, 0x041F0000, 1 << bit);
            } else if (bit < 8 || bit == 27 || bit == 30) {
                takes("bit " + bit, 0, 1 << bit);
            }
        }
        takes("IPL that is like", 0x00050000, 0x00050000);
        takes("IPL that is less", 0x00050000, 0x00040000);
        refuses("IPL that is above", 0x00050000, 0x00060000);
        takes("IPL 31", 0x001F0000, 0x001F0000);
        refuses("IPL 1 from 0", 0, 0x00010000);
        refuses("IPL with CUR not 0", 0x00050000, 0x03C10000);
        refuses("IPL with CUR 1", 0x001F0000, 0x015F0000);
        takes("IPL 0 with CUR 3", 0x001F0000, 0x03C00000);
        takes("IS when IS is 1", 0x041F0000, 0x041F0000);
        takes("IS when IS is 1, no IPL", 0x041F0000, 0x04000000);
        takes("no IS when IS is 1", 0x041F0000, 0x03C00000);
        refuses("IS when IS is 0", 0x001F0000, 0x04000000);
        refuses("IS with CUR not 0", 0x041F0000, 0x05400000);
        for (int level = 0; level <= 4; level++) {
            for (int mode = 0; mode < 4; mode++) {
                Trial t = stacks(Trial.of("ASTLVL " + level + " mode " + mode, 0x02)).longs(DATA, 0x1234, mode << 24 | 3 << 22).special(19, level)
                    .special(21, 0x80).status(0x001F0000).reg(14, DATA).run(1).fine();
                t.reads(21, mode >= level ? 0x84 : 0x80);
            }
        }
        Trial.of("TP of the old one", 0x02).longs(DATA, 0x1234, 0).status(0x10).reg(14, DATA).run(1).is(16, 0x40000000);
        Trial.of("TP of what was popped", 0x02).longs(DATA, 0x1234, 0x40000000).reg(14, DATA).run(1).is(16, 0x40000000);
        Trial.of("T that was popped", 0x02).longs(DATA, 0x1234, 0x10).reg(14, DATA).run(1).is(16, 0x10);
        Trial.of("all of PC", 0x02).longs(DATA, 0x89ABCDEF, 5).reg(14, DATA).run(1).fine().is(15, 0x89ABCDEF);
        Trial.of("the last bytes of memory", 0x02).longs(END - 8, 0x1234, 0x0F).reg(14, END - 8).run(1).fine().is(14, END).is(16, 0x0F);
        Trial.of("STATUS is not there", 0x02).longs(END - 4, 0x1234).reg(14, END - 4).run(1).fault(CHECK, 0, END).reads(0, END - 4);
        Trial.of("PC is not there", 0x02).reg(14, -4).run(1).fault(CHECK, 0, -4);
    }

    private static Trial probe(int opcode, int mode, int count, int base, int status) {
        return Trial.mapped("PROBE " + opcode + " mode " + mode + " count " + count + " base " + Integer.toHexString(base), opcode, Bench.b(mode),
            Bench.w(count), Bench.at(base), 0x01).status(status);
    }

    private static void may(Trial t, boolean may) {
        t.run(1).fine().flags(may ? 1 : 5).state(6, 1).holds(Trial.PROCESS_TABLE + 4, 4, t.x.memory(Trial.PROCESS_TABLE + 4, 4) & ~(1L << 26));
    }

    private static void probes() {
        Bench.part("PROBE");
        int[] readers = {-1, -1, 0, 0, 3, 1, 1, 1, 2, 2, 2, 2, 3, 3, 3, 3};
        int[] writers = {-1, -1, 0, -1, 3, 1, 0, -1, 2, 1, 0, -1, 2, 1, 0, -1};
        for (int entryCode = 0; entryCode < 16; entryCode++) {
            for (int mode = 0; mode < 4; mode++) {
                for (int previous = 0; previous < 4; previous++) {
                    int asked = Math.max(mode, previous);
                    for (int valid = 0; valid < 2; valid++) {
                        int entry = valid << 31 | entryCode << 27 | 17;
                        may(probe(0x0C, mode + 4, 1, 600, previous << 22 | 11).longs(Trial.PROCESS_TABLE + 4, entry), asked <= readers[entryCode]);
                        may(probe(0x0D, mode + 252, 1, 600, previous << 22 | 11).longs(Trial.PROCESS_TABLE + 4, entry), asked <= writers[entryCode]);
                    }
                }
            }
        }
        may(probe(0x0C, 3, 0, 1023, 1).longs(Trial.PROCESS_TABLE + 8, 0), true);
        may(probe(0x0C, 3, 1, 1023, 1).longs(Trial.PROCESS_TABLE + 8, 0), true);
        may(probe(0x0C, 3, 2, 1023, 1).longs(Trial.PROCESS_TABLE + 8, 0), false);
        may(probe(0x0D, 3, 2, 511, 1).longs(Trial.PROCESS_TABLE, 0), false);
        may(probe(0x0C, 3, 1026, 511, 1).longs(Trial.PROCESS_TABLE + 4, 0, 0), true);
        may(probe(0x0C, 3, 16 * 512, 0, 1), true);
        may(probe(0x0C, 3, 16 * 512 + 1, 0, 1), false);
        may(probe(0x0C, 3, 0xFFFF, 0, 1), false);
        may(probe(0x0C, 3, 1, 16 * 512, 1), false);
        may(probe(0x0C, 3, 2, 0x7FFFFFFF, 1), true);
        may(probe(0x0C, 3, 1, -1, 1), false);
        may(probe(0x0C, 3, 2, -1, 1), false);
        may(probe(0x0C, 3, 1, 600, 1).longs(Trial.PROCESS_TABLE + 4, 0xA01FFFFF), true);
        may(probe(0x0C, 3, 1, 600, 1).special(8, S + END - 4), false);
        may(probe(0x0C, 3, 1, 600, 1).special(8, 0), false);
        probe(0x0C, 3, 1, 600, 1).longs(Trial.SYSTEM_TABLE + 24, 0x20000006).run(1).fault(36, 1, 600, 2);
        probe(0x0D, 3, 1, 600, 1).longs(Trial.SYSTEM_TABLE + 24, 0x20000006).run(1).fault(36, 1, 600, 6);
        probe(0x0C, 3, 1, 600, 1).longs(Trial.SYSTEM_TABLE + 24, 0xA0000020).run(1).fault(CHECK, 1, END + 4);
        probe(0x0C, 3, 600, 600, 1).longs(Trial.SYSTEM_TABLE + 24, 0x20000006).run(1).fault(36, 1, 600, 2);
        probe(0x0C, 3, 600, S + 31 * 512, 1).run(1).fine().flags(5);
        probe(0x0C, 3, 513, 0x7FFFFE00, 1).longs(Trial.SYSTEM_TABLE, 0x88000000).run(1).fine().flags(5);
        Trial.of("no map", 0x0D, 0x03, 0x05, Bench.at(-1)).status(15).run(1).fine().flags(1);
        Trial.of("a user may ask", 0x0C, 0x00, 0x05, Bench.at(0)).status(0x03C00000).run(1).fine().flags(0);
    }

    private static void saved() {
        Bench.part("SVPCTX");
        int last = END - 96;
        for (int level : new int[] {0, 1, 2, 31}) {
            for (int is = 0; is < 2; is++) {
                Trial t = stacks(Trial.of("IPL " + level + " IS " + is, 0x07)).special(INTERRUPTS, 0x2700).special(16, last).longs(DATA, 0x4321, 0x03C00000);
                t.x.set(16, is << 26 | level << 16 | 5);
                t.reg(14, DATA).run(1).fine().is(16, 0x04000005 | (is == 0 ? Math.max(level, 1) : level) << 16);
                t.is(14, is == 0 ? 0x2700 : DATA + 8).holds(last, 4, is == 0 ? DATA + 8 : STACK).holds(last + 72, 8, 0x03C0000000004321L);
                t.holds(last + 80, 8, 0).holds(last + 88, 8, 0).holds(last + 12, 4, STACK - 0x300).reads(0, is == 0 ? DATA + 8 : STACK);
            }
        }
        Trial row = Trial.of("registers", 0x07).special(16, DATA + 0x100).longs(DATA, 0x87654321, 0x93C00005).reg(14, DATA);
        row.bytes(DATA + 0x100 - 1, Bench.repeated(0xEE, 98));
        for (int n = 0; n < 14; n++) {
            row.reg(n, 0x89000000 + n);
        }
        row.run(1).fine().holds(DATA + 0x100 - 1, 1, 0xEE).holds(DATA + 0x100 + 72, 8, 0x93C0000587654321L).holds(DATA + 0x100 + 80, 1, 0xEE);
        for (int n = 0; n < 14; n++) {
            row.holds(DATA + 0x110 + 4 * n, 4, 0x89000000L + n);
        }
        Trial.of("the first bytes of memory", 0x07).special(16, 0).longs(DATA, 0x4321, 0x03C00000).reg(14, DATA).run(1).fine().holds(0, 4, DATA + 8)
            .holds(72, 8, 0x03C0000000004321L);
        Trial.of("the last pops", 0x07).special(16, DATA).longs(END - 8, 0x4321, 0x03C00000).reg(14, END - 8).run(1).fine().holds(DATA, 4, END);
        Trial kernels = Trial.mapped("a stack of the kernel's", 0x07).special(16, DATA).longs(Trial.PROCESS_TABLE, 1 << 31 | 2 << 27 | 16).reg(14, 8);
        kernels.longs(16 * 512 + 8, 0x4321, 0x03C00000).run(1).fine().holds(DATA + 72, 8, 0x03C0000000004321L);
        Trial.of("one byte is not there", 0x07).special(16, last + 1).run(1).fault(CHECK, 0, END).reads(0, STACK);
        Trial.of("none is", 0x07).special(16, END).run(1).fault(CHECK, 0, END);
        Trial.of("none is, far away", 0x07).special(16, -1).run(1).fault(CHECK, 0, -1);
        Trial.of("the block is asked for ahead of the pops", 0x07).special(16, -96).reg(14, END).run(1).fault(CHECK, 0, -96);
        Trial.of("a pop is not there", 0x07).special(16, DATA).reg(14, END - 4).run(1).fault(CHECK, 0, END).reads(0, END - 4);
    }

    private static int[] block(int sp, int nine) {
        int[] out = new int[24];
        for (int i = 0; i < 24; i++) {
            out[i] = 0x100 + i;
        }
        out[0] = sp;
        out[18] = 0x4321;
        out[19] = 0x03C00000;
        out[20] = 0x80001111;
        out[21] = nine;
        out[22] = 0x80002222;
        out[23] = -1;
        return out;
    }

    private static void loaded() {
        Bench.part("LDPCTX");
        int last = END - 96;
        for (int level = 0; level < 8; level++) {
            Trial t = Trial.of("ASTLVL " + level, 0x06).special(16, last).special(INTERRUPTS, 0x2700).longs(last, block(STACK, level << 24 | 0x00FFFFFF));
            t.x.set(16, 0x041F0005);
            t.reg(14, 0x2600).run(1).fine().reads(19, level).reads(9, 0x3FFFFF).reads(8, 0x80001111L).reads(10, 0x80002222L).reads(11, 0x3FFFFF);
            t.is(16, 0x001F0005).is(14, STACK - 8).holds(STACK - 8, 8, 0x03C0000000004321L).reads(INTERRUPTS, 0x2600);
            for (int n = 0; n < 14; n++) {
                t.is(n, 0x104 + n);
            }
            t.reads(1, 0x101).reads(3, 0x103);
        }
        Trial.of("bits 27 and more are not ASTLVL's", 0x06).special(16, DATA).longs(DATA, block(STACK, 0xF9000001)).run(1).fine().reads(19, 1).reads(9, 1);
        Trial.of("one byte is not there", 0x06).special(16, last + 1).reg(1, 7).run(1).fault(CHECK, 0, END).is(1, 7).reads(19, 4);
        Trial.of("none is", 0x06).special(16, 0x80000000).run(1).fault(CHECK, 0, 0x80000000);
        Trial.of("just enough stack", 0x06).special(16, DATA).longs(DATA, block(8, 0)).run(1).fine().is(14, 0).holds(0, 8, 0x03C0000000004321L);
        Trial.of("not enough for both", 0x06).special(16, DATA).longs(DATA, block(7, 0x02000009)).reg(1, 7).status(1).run(1).fault(CHECK, 1, -1).is(1, 7)
            .reads(19, 2).reads(9, 9).reads(0, STACK);
        Trial entries = Trial.mapped("P0's and P1's entries go, S's stay", 0x90, Bench.at(5), Bench.at(0x7FFFFFFF), 0x06).special(16, DATA)
            .longs(DATA, block(S + STACK, 16)).run(1).state(6, 4).run(1).fine();
        Trial first = Trial.mapped("S's first slot stays", 0x95, Bench.at(S), 0x06).special(16, DATA).longs(DATA, block(S + STACK, 16)).run(2).fine();
        first.kept(16, 0x80000000L, 0xA0000000L);
        entries.kept(0, -1, -1).kept(15, -1, -1).kept(17, 0x80000200L, 0xA0000001L).kept(22, 0x80000C00L, 0xA0000006L).state(6, 3);
    }

    public static void main(String[] args) {
        changes();
        returns();
        probes();
        saved();
        loaded();
        Bench.end("edges of modes");
    }
}
