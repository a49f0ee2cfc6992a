/** FIELDS, QUEUES and CALLS: sizes and positions at their ends, empty queues, masks, pushes and pops at memory's ends. */
public final class EdgesOfFields {
    private static final int CODE = Trial.CODE;
    private static final int DATA = Trial.DATA;
    private static final int STACK = Trial.STACK;
    private static final int END = Trial.END;
    private static final int RESERVED = 24;
    private static final int CHECK = 4;
    private static final int LEAST = Integer.MIN_VALUE;
    private static final int MOST = Integer.MAX_VALUE;

    /** Position, size and base, with what an instruction has ahead of them and behind. */
    private static int[] field(int opcode, int p, int s, int... base) {
        int[] ahead = opcode == 0xF0 ? Bench.code(opcode, Bench.l(-1)) : Bench.code(opcode);
        int[] behind = opcode == 0xF0 ? Bench.code() : Bench.code(0x5A);
        return Bench.code(ahead, Bench.l(p), Bench.b(s), base, behind);
    }

    private static void sizes() {
        Bench.part("sizes and positions");
        for (int opcode : new int[] {0xEA, 0xEB, 0xEC, 0xED, 0xEE, 0xEF, 0xF0}) {
            String name = Integer.toHexString(opcode) + ": ";
            for (int s : new int[] {33, 34, 64, 127, 128, 255}) {
                Trial.of(name + "size " + s, field(opcode, 0, s, 0x51)).status(15).run(1).fault(RESERVED, 15);
                Trial.of(name + "size " + s + " in memory", field(opcode, 0, s, Bench.at(DATA))).run(1).fault(RESERVED, 0);
            }
            for (int p : new int[] {32, 33, -1, LEAST, MOST}) {
                Trial.of(name + "position " + p, field(opcode, p, 1, 0x51)).run(1).fault(RESERVED, 0);
                Trial.of(name + "position " + p + " of size 0", field(opcode, p, 0, 0x51)).run(1).fine();
                Trial.of(name + "size 33 at " + p, field(opcode, p, 33, 0x51)).run(1).fault(RESERVED, 0);
            }
            Trial.of(name + "all of a register", field(opcode, 0, 32, 0x51)).run(1).fine();
            Trial.of(name + "the last bit", field(opcode, 31, 1, 0x5E)).reg(14, STACK).run(1).fine();
            Trial.of(name + "on into the next", field(opcode, 31, 2, 0x5D)).run(1).fine();
            Trial.of(name + "behind SP there is none", field(opcode, 31, 2, 0x5E)).run(1).fault(RESERVED, 0);
            Trial.of(name + "behind SP there is none", field(opcode, 1, 32, 0x5E)).run(1).fault(RESERVED, 0);
            Trial.of(name + "size 0 of SP", field(opcode, 31, 0, 0x5E)).run(1).fine();
            Trial.of(name + "size 0 in memory that is not there", field(opcode, 5, 0, Bench.at(END))).run(1).fine();
            Trial.of(name + "size 0 far away", field(opcode, LEAST, 0, Bench.at(-1))).run(1).fine();
            Trial.of(name + "the last bits of memory", field(opcode, 7, 1, Bench.at(END - 1))).run(1).fine();
            Trial.of(name + "one behind", field(opcode, 8, 1, Bench.at(END - 1))).run(1).fault(CHECK, 0, END);
            Trial.of(name + "one bit behind", field(opcode, 7, 2, Bench.at(END - 1))).run(1).fault(CHECK, 0, END);
            Trial.of(name + "32 bits in four bytes", field(opcode, 0, 32, Bench.at(END - 4))).run(1).fine();
            Trial.of(name + "32 bits in five bytes", field(opcode, 7, 32, Bench.at(END - 5))).run(1).fine();
            Trial.of(name + "32 bits in five bytes", field(opcode, 1, 32, Bench.at(END - 4))).run(1).fault(CHECK, 0, END);
            Trial.of(name + "below the base", field(opcode, -1, 1, Bench.at(0))).run(1).fault(CHECK, 0, -1);
            Trial.of(name + "below the base", field(opcode, -8, 8, Bench.at(1))).run(1).fine();
            Trial.of(name + "the least position", field(opcode, LEAST, 1, Bench.at(0x10000000))).run(1).fine();
            Trial.of(name + "the greatest position", field(opcode, MOST, 1, Bench.at(0xF0000001))).run(1).fine();
        }
    }

    private static void values() {
        Bench.part("fields");
        for (int p = 0; p < 32; p += p == 0 ? 1 : 5) {
            for (int s : new int[] {0, 1, 2, 7, 8, 9, 31, 32}) {
                one(p, s, 0x9A5F13C7, 0x6B24E8D1);
                one(p, s, 0, 0);
                one(p, s, -1, -1);
            }
        }
        Trial.of("one bit with sign", 0xEE, 0x1F, 0x01, 0x51, 0x52).reg(1, LEAST).status(3).run(1).is(2, -1).flags(8);
        Trial.of("one bit without", 0xEF, 0x1F, 0x01, 0x51, 0x52).reg(1, LEAST).status(3).run(1).is(2, 1).flags(0);
        Trial.of("size 0", 0xEE, 0x00, 0x00, 0x51, 0x52).reg(1, -1).reg(2, 9).status(11).run(1).is(2, 0).flags(4);
        Trial.of("size 0 behind another", 0xEF, 0x00, 0x20, 0x51, 0x52, 0xEF, 0x00, 0x00, 0x51, 0x53, 0xED, 0x00, 0x00, 0x51, 0x00).reg(1, -1).reg(3, 9)
            .run(2).fine().is(2, -1).is(3, 0).flags(4).run(1).flags(4);
        Trial.of("size 0 compared", 0xEC, 0x00, 0x00, 0x51, 0x01).reg(1, -1).run(1).flags(9);
        Trial.of("size 0 compared", 0xED, 0x00, 0x00, 0x51, 0x00).reg(1, -1).status(15).run(1).flags(4);
        Trial.of("32 bits compared, with the L", 0xED, 0x00, 0x20, 0x51, Bench.l(1)).reg(1, -1).run(1).flags(8);
        for (int opcode = 0xEC; opcode <= 0xED; opcode++) {
            for (int v : new int[] {-9, -8, -7, 6, 7, 8, 9, LEAST, MOST}) {
                int field = opcode == 0xEC ? -8 : 8;
                int want = (field < v ? 8 : 0) | (field == v ? 4 : 0) | (Integer.compareUnsigned(field, v) < 0 ? 1 : 0);
                Trial.of("compared with " + v, opcode, 0x04, 0x04, 0x51, Bench.l(v)).reg(1, 0x85).status(2).run(1).fine().flags(want);
            }
        }
        Trial.of("FFS, size 0", 0xEA, 0x05, 0x00, 0x51, 0x52).reg(1, -1).status(11).run(1).is(2, 5).flags(4);
        Trial.of("FFC, none", 0xEB, 0x05, 0x1B, 0x51, 0x52).reg(1, -1).run(1).is(2, 32).flags(4);
        Trial.of("FFS, the last one", 0xEA, 0x05, 0x1B, 0x51, 0x52).reg(1, LEAST).status(15).run(1).is(2, 31).flags(0);
        Trial.of("FFS, the one behind", 0xEA, 0x05, 0x1A, 0x51, 0x52).reg(1, LEAST).run(1).is(2, 31).flags(4);
        Trial.of("FFS, the one ahead", 0xEA, 0x05, 0x1A, 0x51, 0x52).reg(1, 0x10).run(1).is(2, 31).flags(4);
        Trial.of("FFS from below 0", 0xEA, Bench.l(-9), 0x20, Bench.at(DATA), 0x52).bytes(DATA - 1, 0x80).run(1).is(2, -1).flags(0);
        Trial.of("FFS finds none up to 0", 0xEA, Bench.l(-9), 0x09, Bench.at(DATA), 0x52).bytes(DATA, 0xFF).run(1).is(2, 0).flags(4);
        Trial.of("INSV leaves flags", 0xF0, 0x3F, 0x1C, 0x08, 0x51).status(15).run(1).fine().is(1, 0xF0000000).is(2, 3).flags(15);
        Trial.of("INSV of size 0", 0xF0, 0x3F, 0x1C, 0x00, 0x51).reg(1, 7).run(1).fine().is(1, 7);
        Trial.of("INSV in memory", 0xF0, 0x00, 0x04, 0x08, Bench.at(DATA)).longs(DATA, -1).run(1).fine().holds(DATA, 4, 0xFFFFF00FL);
        Trial.of("INSV of 32 bits", 0xF0, 0x00, 0x07, 0x20, Bench.at(DATA)).longs(DATA, -1, -1).run(1).holds(DATA, 8, 0xFFFFFF800000007FL);
        Trial.of("INSV of all of R13 and one of SP", 0xF0, 0x00, 0x01, 0x20, 0x5D).reg(13, -1).reg(14, -1).run(1).is(13, 1).is(14, -2);
    }

    private static void one(int p, int s, int low, int high) {
        long whole = low & 0xFFFFFFFFL | (long) high << 32;
        long field = whole >>> p & (1L << s) - 1;
        int plain = (int) field;
        int signed = s == 0 ? 0 : (int) (field << 64 - s >> 64 - s);
        String what = "p " + p + " s " + s;
        for (int where = 0; where < 2; where++) {
            int[] base = where == 0 ? new int[] {0x56} : Bench.at(DATA);
            String place = what + (where == 0 ? " in a register" : " in memory");
            Trial.of(place, 0xEE, p, s, base, 0x5A).longs(DATA, low, high).reg(6, low).reg(7, high).status(3).run(1).fine()
                .is(10, signed).flags((signed < 0 ? 8 : 0) | (signed == 0 ? 4 : 0));
            Trial.of(place, 0xEF, p, s, base, 0x5A).longs(DATA, low, high).reg(6, low).reg(7, high).status(3).run(1).fine()
                .is(10, plain).flags((plain < 0 ? 8 : 0) | (plain == 0 ? 4 : 0));
            found(place, 0xEA, p, s, base, low, high, Long.numberOfTrailingZeros(field | 1L << s));
            found(place, 0xEB, p, s, base, low, high, Long.numberOfTrailingZeros(~field | 1L << s));
        }
    }

    private static void found(String what, int opcode, int p, int s, int[] base, int low, int high, int by) {
        Trial.of(what, opcode, p, s, base, 0x5A).longs(DATA, low, high).reg(6, low).reg(7, high).status(11).run(1).fine()
            .is(10, p + by).flags(by == s ? 4 : 0);
    }

    private static void bits() {
        Bench.part("branches on bits");
        for (int opcode = 0xE0; opcode <= 0xE7; opcode++) {
            String name = Integer.toHexString(opcode);
            boolean one = opcode % 2 == 0;
            boolean sets = opcode == 0xE2 || opcode == 0xE3 || opcode == 0xE6;
            for (int p : new int[] {32, -1, LEAST, MOST}) {
                Trial.of(name + " of a register at " + p, opcode, Bench.l(p), 0x51, 0x10).status(15).run(1).fault(RESERVED, 15);
            }
            for (int p : new int[] {0, 31}) {
                for (int bit = 0; bit < 2; bit++) {
                    int old = bit == 1 ? -1 : 0;
                    int after = opcode < 0xE2 ? old : sets ? old | 1 << p : old & ~(1 << p);
                    int to = CODE + 4 + ((bit == 1) == one ? 16 : 0);
                    Trial.of(name + " bit " + p, opcode, p, 0x51, 0x10).reg(1, old).status(10).run(1).fine().is(1, after).is(15, to).flags(10);
                    Trial.of(name + " bit " + p + " in memory", opcode, p, 0x61, 0x10).reg(1, DATA).longs(DATA, old).run(1).fine()
                        .holds(DATA, 4, after & 0xFFFFFFFFL).is(15, to);
                }
            }
            Trial.of(name + " the last bit of memory", opcode, 0x07, Bench.at(END - 1), 0x10).run(1).fine();
            Trial.of(name + " one behind", opcode, 0x08, Bench.at(END - 1), 0x10).run(1).fault(CHECK, 0, END);
            Trial.of(name + " below", opcode, Bench.l(-1), Bench.at(0), 0x10).run(1).fault(CHECK, 0, -1);
            Trial mapped = Trial.mapped(name + " asks for writing", opcode, 0x01, Bench.at(1), 0x00).run(1).fine();
            mapped.holds(Trial.PROCESS_TABLE, 4, opcode < 0xE2 ? 0xA0000010L : 0xA4000010L);
        }
        Trial.mapped("INSV asks for writing", 0xF0, 0x00, 0x01, 0x01, Bench.at(1)).run(1).fine().holds(Trial.PROCESS_TABLE, 4, 0xA4000010L);
        Trial.mapped("EXTV does not", 0xEE, 0x01, 0x01, Bench.at(1), 0x51).run(1).fine().holds(Trial.PROCESS_TABLE, 4, 0xA0000010L);
        Trial.mapped("INSV of size 0 asks nothing", 0xF0, 0x00, 0x01, 0x00, Bench.at(1)).run(1).fine().holds(Trial.PROCESS_TABLE, 4, 0xA0000010L);
    }

    private static void absoluteQueues() {
        Bench.part("INSQUE and REMQUE");
        int h = DATA + 1;
        int a = DATA + 0x21;
        Trial.of("into an empty one", 0x0E, Bench.at(a), Bench.at(h)).longs(h, h, h).status(15).run(1).fine().flags(4)
            .holds(h, 8, (long) a << 32 | a).holds(a, 8, (long) h << 32 | h);
        Trial.of("L's below and above", 0x0E, Bench.at(a), Bench.at(h)).longs(h, DATA + 0x40, 9).run(1).fine().flags(0)
            .holds(a, 8, (long) h << 32 | DATA + 0x40).holds(DATA + 0x44, 4, a).holds(h, 8, 9L << 32 | a);
        Trial.of("L's below", 0x0E, Bench.at(a), Bench.at(h)).longs(h, 0x10, 9).run(1).flags(9);
        Trial.of("the sum wraps", 0x0E, Bench.at(a), Bench.at(h)).longs(h, -4, 9).run(1).fine().holds(0, 4, a).flags(8);
        Trial.of("a's place is not there", 0x0E, Bench.at(END - 4), Bench.at(h)).longs(h, h, h).run(1).fault(CHECK, 0, END).holds(END - 4, 4, 0);
        Trial.of("b's is not", 0x0E, Bench.at(a), Bench.at(END)).run(1).fault(CHECK, 0, END);
        Trial.of("the next one's is not", 0x0E, Bench.at(a), Bench.at(h)).longs(h, END, 9).run(1).fault(CHECK, 0, END + 4).holds(a, 8, 0)
            .holds(h, 4, END);
        Trial.of("b is the last L of memory", 0x0E, Bench.at(a), Bench.at(END - 4)).longs(END - 4, DATA + 0x40).run(1).fine().holds(END - 4, 4, a);
        Trial.of("the last bytes of memory", 0x0E, Bench.at(END - 8), Bench.at(h)).longs(h, h, h).run(1).fine();
        Trial.of("alone", 0x0F, Bench.at(h), 0x52).longs(h, h, h).status(9).run(1).fine().flags(6).is(2, h).holds(h, 8, (long) h << 32 | h);
        Trial.of("forward is itself, back is not", 0x0F, Bench.at(h), 0x52).longs(h, h, a).run(1).fine().flags(9).holds(a, 4, h)
            .holds(h + 4, 4, a);
        Trial.of("the last but the header", 0x0F, Bench.at(a), 0x52).longs(h, a, a).longs(a, h, h).run(1).fine().flags(4).is(2, a)
            .holds(h, 8, (long) h << 32 | h);
        Trial.of("the operand's place is not there", 0x0F, Bench.at(a), Bench.at(END)).longs(h, a, a).longs(a, h, h).run(1)
            .fault(CHECK, 0, END).holds(h, 8, (long) a << 32 | a);
        Trial.of("an entry at the end", 0x0F, Bench.at(END - 8), 0x52).longs(END - 8, h, h).run(1).fine().is(2, END - 8).holds(h, 8, links(h, h));
        Trial.of("half an entry at the end", 0x0F, Bench.at(END - 4), 0x52).run(1).fault(CHECK, 0, END);
        Trial none = Trial.mapped("none was there: nothing is written", 0x0F, Bench.at(8), 0x52).longs(16 * 512 + 8, 8, 8);
        none.longs(Trial.PROCESS_TABLE, 1 << 31 | 15 << 27 | 16).run(1).fine().flags(6).is(2, 8);
        Trial order = Trial.mapped("translated in this order", 0x0E, Bench.at(508), Bench.at(1024)).longs(18 * 512, 0xC0000000);
        order.run(1).fault(32, 0, 0xC0000004, 5).holds(Trial.PROCESS_TABLE, 8, 0xA4000011A4000010L).holds(Trial.PROCESS_TABLE + 8, 4,
            0xA0000012L).holds(17 * 512 - 4, 8, 0);
    }

    /** Entries in S, so that all bytes of their addresses count. */
    private static void queuesOfSystem() {
        int h = Trial.S | DATA;
        int a = h + 0x20;
        int b = h + 0x40;
        Trial t = Trial.mapped("in S", 0x0E, Bench.at(a), Bench.at(h), 0x0E, Bench.at(b), Bench.at(a), 0x0F, Bench.at(a), 0x52, 0x0F, Bench.at(b), 0x53);
        t.bytes(DATA - 1, Bench.repeated(0xEE, 0x50)).longs(DATA, h, h).run(1).fine().flags(4);
        t.holds(DATA, 8, links(a, a)).holds(DATA + 0x20, 8, links(h, h)).holds(DATA + 8, 1, 0xEE).holds(DATA + 0x28, 1, 0xEE);
        t.run(1).fine().flags(9).holds(DATA, 8, links(a, b)).holds(DATA + 0x20, 8, links(b, h)).holds(DATA + 0x40, 8, links(h, a));
        t.run(1).fine().flags(0).is(2, a).holds(DATA, 8, links(b, b)).holds(DATA + 0x40, 8, links(h, h)).holds(DATA + 0x48, 1, 0xEE);
        t.run(1).fine().flags(4).is(3, b).holds(DATA, 8, links(h, h)).holds(DATA + 8, 1, 0xEE).holds(DATA - 1, 1, 0xEE);
        t = Trial.mapped("in S and P0", 0x0E, Bench.at(8), Bench.at(h), 0x0E, Bench.at(b), Bench.at(8), 0x0F, Bench.at(8), 0x52, 0x0F, Bench.at(b), 0x53);
        t.longs(DATA, h, h).run(1).fine().holds(DATA, 8, links(8, 8)).holds(16 * 512 + 8, 8, links(h, h));
        t.run(1).fine().holds(DATA, 8, links(8, b)).holds(16 * 512 + 8, 8, links(b, h)).holds(DATA + 0x40, 8, links(h, 8));
        t.run(1).fine().is(2, 8).holds(DATA, 8, links(b, b)).holds(DATA + 0x40, 8, links(h, h)).run(1).fine().holds(DATA, 8, links(h, h));
        for (int opcode = 0x5C; opcode <= 0x5D; opcode++) {
            t = Trial.mapped("from P0 to S", opcode, Bench.at(8), Bench.at(h), opcode + 2, Bench.at(h), 0x52).longs(DATA, 0, 0).run(1).fine().flags(4);
            t.holds(DATA, 8, links(8 - h, 8 - h)).holds(16 * 512 + 8, 8, links(h - 8, h - 8)).holds(DATA + 8, 4, 0).holds(16 * 512 + 16, 4, 0);
            t.run(1).fine().flags(4).is(2, 8).holds(DATA, 8, 0);
        }
    }

    private static long links(int forward, int back) {
        return (long) back << 32 | forward & 0xFFFFFFFFL;
    }

    private static void relativeQueues() {
        Bench.part("relative queues");
        int h = DATA;
        int a = DATA + 0x20;
        for (int low = 1; low < 8; low++) {
            for (int opcode : new int[] {0x5C, 0x5D}) {
                Trial.of("an entry with low bits " + low, opcode, Bench.at(a + low), Bench.at(h)).run(1).fault(RESERVED, 0);
                Trial.of("a header with low bits " + low, opcode, Bench.at(a), Bench.at(h + low)).run(1).fault(RESERVED, 0);
                Trial.of("a link with low bits " + low, opcode, Bench.at(a), Bench.at(h)).longs(h, 0x10 + low, 0x10 + low).run(1)
                    .fault(RESERVED, 0).holds(a, 8, 0);
            }
            for (int opcode : new int[] {0x5E, 0x5F}) {
                Trial.of("a header with low bits " + low, opcode, Bench.at(h + low), 0x52).run(1).fault(RESERVED, 0);
                Trial.of("a link with low bits " + low, opcode, Bench.at(h), 0x52).longs(h, 0x20 + low, 0x20 + low).run(1).fault(RESERVED, 0);
                Trial.of("the entry's link with low bits " + low, opcode, Bench.at(h), 0x52).longs(h, 0x20, 0x20)
                    .longs(a, low - 0x20, low - 0x20).run(1).fault(RESERVED, 0).holds(h, 8, 0x2000000020L);
            }
        }
        for (int opcode : new int[] {0x5C, 0x5D}) {
            Trial.of("alone", opcode, Bench.at(a), Bench.at(h)).status(11).run(1).fine().flags(4).holds(h, 8, 0x2000000020L)
                .holds(a, 8, 0xFFFFFFE0FFFFFFE0L);
            Trial.of("a header at the end of memory", opcode, Bench.at(a), Bench.at(END - 8)).run(1).fine().flags(4).holds(a, 8, links(END - 8 - a, END - 8 - a));
            Trial beyond = Trial.of("nothing beyond the links", opcode, Bench.at(a), Bench.at(h)).bytes(DATA - 1, Bench.repeated(0xEE, 0x40)).longs(h, 0, 0);
            beyond.run(1).fine().holds(h - 1, 1, 0xEE).holds(h + 8, 1, 0xEE).holds(a - 1, 1, 0xEE).holds(a + 8, 1, 0xEE);
            Trial order = Trial.mapped("the header is read, the entry written first", opcode, Bench.at(0xC0000000), Bench.at(8));
            order.longs(Trial.PROCESS_TABLE, 1 << 31 | 15 << 27 | 16).run(1).fault(32, 0, 0xC0000000, 5);
            Trial.of("a place that is not there", opcode, Bench.at(END), Bench.at(h)).run(1).fault(CHECK, 0, END).holds(h, 8, 0);
            Trial.of("a header that is not there", opcode, Bench.at(a), Bench.at(END)).run(1).fault(CHECK, 0, opcode == 0x5C ? END : END + 4);
            Trial two = Trial.of("two", opcode, Bench.at(DATA + 0x40), Bench.at(h)).longs(h, 0x20, 0x20).longs(a, -0x20, -0x20).status(15);
            two.run(1).fine().flags(0);
            two.holds(h, 8, opcode == 0x5C ? 0x2000000040L : 0x4000000020L);
            two.holds(a, 8, opcode == 0x5C ? 0x20FFFFFFE0L : 0xFFFFFFE000000020L);
            two.holds(DATA + 0x40, 8, opcode == 0x5C ? 0xFFFFFFC0FFFFFFE0L : 0xFFFFFFE0FFFFFFC0L);
        }
        for (int opcode : new int[] {0x5E, 0x5F}) {
            Trial.of("it was empty", opcode, Bench.at(h), 0x52).reg(2, 77).status(9).run(1).fine().flags(6).is(2, 77);
            Trial.of("the place is not looked at", opcode, Bench.at(h), Bench.at(END)).run(1).fine().flags(6);
            Trial.of("the only one", opcode, Bench.at(h), 0x52).longs(h, 0x20, 0x20).longs(a, -0x20, -0x20).status(11).run(1).fine()
                .flags(4).is(2, a).holds(h, 8, 0);
            Trial.of("the place is not there", opcode, Bench.at(h), Bench.at(END)).longs(h, 0x20, 0x20).longs(a, -0x20, -0x20).run(1)
                .fault(CHECK, 0, END).holds(h, 8, 0x2000000020L);
            Trial beyond = Trial.of("nothing beyond the links", opcode, Bench.at(h), 0x52).bytes(DATA - 1, Bench.repeated(0xEE, 0x40)).longs(h, 0x20, 0x20);
            beyond.longs(a, -0x20, -0x20).run(1).fine().holds(h - 1, 1, 0xEE).holds(h + 8, 1, 0xEE).holds(a, 8, links(-0x20, -0x20));
            Trial kept = Trial.mapped("what is taken out is only read", opcode, Bench.at(Trial.S | DATA), 0x52).longs(16 * 512 + 8, (Trial.S | DATA) - 8,
                (Trial.S | DATA) - 8).longs(DATA, 8 - (Trial.S | DATA), 8 - (Trial.S | DATA));
            kept.longs(Trial.PROCESS_TABLE, 1 << 31 | 15 << 27 | 16).run(1).fine().flags(4).is(2, 8).holds(DATA, 8, 0);
            Trial.of("empty at the end of memory", opcode, Bench.at(END - 8), 0x52).run(1).fine().flags(6);
            Trial.of("the only one at the end of memory", opcode, Bench.at(h), 0x52).longs(h, END - 8 - h, END - 8 - h)
                .longs(END - 8, h - END + 8, h - END + 8).run(1).fine().flags(4).is(2, END - 8).holds(h, 8, 0);
            Trial two = Trial.of("one of two", opcode, Bench.at(h), 0x52).longs(h, 0x20, 0x40).longs(a, 0x20, -0x20).longs(a + 0x20, -0x40, -0x20);
            two.status(15).run(1).fine().flags(0).is(2, opcode == 0x5E ? a : a + 0x20);
            two.holds(h, 8, opcode == 0x5E ? 0x4000000040L : 0x2000000020L);
        }
    }

    private static void calls() {
        Bench.part("calls");
        for (int bit = 12; bit < 14; bit++) {
            Trial.of("mask bit " + bit, 0xFA, Bench.at(0), Bench.at(DATA)).bytes(DATA, Bench.spread(1 << bit, 2)).status(15).run(1)
                .fault(RESERVED, 15).holds(STACK - 4, 4, 0);
        }
        for (int low = 0; low < 4; low++) {
            Trial t = Trial.of("SP's low bits " + low, 0xFA, Bench.at(77), Bench.at(DATA)).bytes(DATA, 0, 0, 0x04).reg(14, STACK + low);
            t.reg(12, 5).reg(13, 6).run(1).fine().is(14, STACK - 20).is(13, STACK - 20).is(12, 77).is(15, DATA + 2);
            t.holds(STACK - 20, 8, (long) low << 62).holds(STACK - 12, 8, 0x0000000600000005L).holds(STACK - 4, 4, CODE + 11);
            t.run(1).fine().is(14, STACK + low).is(12, 5).is(13, 6).is(15, CODE + 11);
        }
        Trial all = Trial.of("all registers", 0xFB, Bench.l(0x102), Bench.at(DATA)).bytes(DATA, 0xFF, 0xCF, 0x04);
        for (int n = 0; n < 14; n++) {
            all.reg(n, 0x1000 + n);
        }
        all.status(0x5F).run(1).fine().is(14, STACK - 4 - 68).is(12, STACK - 4).is(16, 0x400000B0);
        for (int n = 0; n < 12; n++) {
            all.holds(STACK - 4 - 48 + 4 * n, 4, 0x1000 + n).reg(n, 0);
        }
        all.holds(STACK - 72, 8, 0x2FFF005000000000L).holds(STACK - 4, 4, 0x102).status(0).run(1).is(14, STACK + 8).is(16, 0x50);
        for (int n = 0; n < 14; n++) {
            all.is(n, 0x1000 + n);
        }
        Trial.of("the count is an L", 0xFB, Bench.l(0x89ABCDEF), Bench.at(DATA)).bytes(STACK - 5, Bench.repeated(0xEE, 10)).run(1).fine()
            .holds(STACK - 4, 8, 0xEEEEEEEE89ABCDEFL).is(12, STACK - 4);
        Trial page = Trial.mapped("the count's own page", 0xFB, 0x01, Bench.at(Trial.S + DATA)).reg(14, 516).run(1).fine();
        page.holds(Trial.PROCESS_TABLE, 8, 0xA4000011A4000010L).holds(17 * 512, 4, 1);
        int[][] masks = {{0x0000, 0x00}, {0x0FFF, 0x00}, {0x0001, 0x00}, {0x4000, 0x20}, {0x8000, 0x80}, {0xC000, 0xA0}};
        for (int[] mask : masks) {
            Trial.of("IV and DV", 0xFA, Bench.at(0), Bench.at(DATA)).bytes(DATA, Bench.spread(mask[0], 2)).status(0xEF).run(1).fine()
                .is(16, mask[1]).holds(STACK - 16 - 4 * Integer.bitCount(mask[0] & 0xFFF), 4, 0xE0 | (mask[0] & 0xFFF) << 16);
        }
        Trial.of("the mask is not there", 0xFA, Bench.at(0), Bench.at(END - 1)).run(1).fault(CHECK, 0, END);
        Trial.of("the last mask of memory", 0xFA, Bench.at(0), Bench.at(END - 2)).run(1).fine().is(15, END);
        Trial.of("just enough stack", 0xFA, Bench.at(0), Bench.at(DATA)).reg(14, 20).run(1).fine().is(14, 0);
        Trial.of("not enough stack", 0xFA, Bench.at(0), Bench.at(DATA)).reg(14, 19).run(1).fault(CHECK, 0, -4).reads(0, 19);
        Trial.of("just enough stack for the count", 0xFB, 0x00, Bench.at(DATA)).reg(14, 24).run(1).fine().is(14, 0).is(12, 20);
        Trial.of("the count is the last L of memory", 0xFB, 0x00, Bench.at(DATA)).reg(14, END).run(1).fine().is(12, END - 4);
        Trial.of("no stack for the count", 0xFB, 0x00, Bench.at(DATA)).reg(14, 3).run(1).fault(CHECK, 0, -1);
    }

    private static void returns() {
        Bench.part("RET");
        for (int bit = 8; bit < 16; bit++) {
            Trial.of("bit " + bit, 0x04).reg(13, DATA).longs(DATA + 4, 1 << bit).reg(12, 5).status(3).run(1).fault(RESERVED, 3).is(12, 5);
        }
        Trial.of("at once, ahead of the other pops", 0x04).reg(13, END - 8).longs(END - 4, 0x100).run(1).fault(RESERVED, 0);
        Trial.of("the next pop is not there", 0x04).reg(13, END - 8).run(1).fault(CHECK, 0, END).is(13, END - 8);
        Trial.of("the last pops of memory", 0x04).reg(13, END - 20).longs(END - 16, 0xFF, 1, 2, 3).run(1).fine().is(12, 1).is(13, 2).is(15, 3)
            .is(14, END).is(16, 0xFF);
        Trial.of("all bytes of what is popped", 0x04).reg(13, DATA).longs(DATA + 4, 0x00010000, 0x89ABCDEF, 0x9ABCDEF8, 0xABCDEF89, 0xBCDEF89A).run(1).fine()
            .is(12, 0x89ABCDEF).is(13, 0x9ABCDEF8).is(15, 0xABCDEF89).is(0, 0xBCDEF89A).is(14, DATA + 24);
        Trial.of("low eight bits of STATUS", 0x04).reg(13, DATA).longs(DATA + 4, 0, 1, 2, 3).status(0x004500EF).run(1).fine().is(16, 0x00450000);
        Trial.of("all bytes of PC by RSB", 0x05).longs(STACK, 0x89ABCDEF).run(1).fine().is(15, 0x89ABCDEF);
        Trial.of("bits 30, 31", 0x04).reg(13, DATA).longs(DATA + 4, 0xC0000000, 1, 2, 3).run(1).fine().is(14, DATA + 23);
        Trial.of("CALLS, a count of 0", 0x04).reg(13, DATA).longs(DATA + 4, 0x20000000, 1, 2, 3, 0xFFFFFF00).run(1).fine().is(14, DATA + 24);
        Trial.of("CALLS, a count of 255", 0x04).reg(13, DATA).longs(DATA + 4, 0x20000000, 1, 2, 3, 0xFF).run(1).fine().is(14, DATA + 24 + 1020);
        Trial.of("CALLS, the count is not there", 0x04).reg(13, END - 20).longs(END - 16, 0x20000000, 1, 2, 3).run(1).fault(CHECK, 0, END)
            .is(13, END - 20).is(12, 0);
        Trial.of("CALLS, the count is the last L", 0x04).reg(13, END - 24).longs(END - 20, 0x20000000, 1, 2, 3, 1).run(1).fine().is(14, END + 4);
        Trial.of("CALLS, one byte of it is not there", 0x04).reg(13, END - 24).longs(END - 20, 0x60000000, 1, 2, 3, 1).run(1).fault(CHECK, 0, END);
        Trial.of("bit 28 is not looked at", 0x04).reg(13, DATA).longs(DATA + 4, 0x10000000, 1, 2, 3).run(1).fine().is(14, DATA + 20);
        Trial.of("one register", 0x04).reg(13, DATA).longs(DATA + 4, 0x08000000, 1, 2, 3, 4).run(1).fine().is(11, 4).is(14, DATA + 24);
        Trial.of("FP at the last address", 0x04).reg(13, -4).longs(0, 0, 1, 2, 3).run(1).fine().is(14, 16);
    }

    private static void registerMasks() {
        Bench.part("PUSHR and POPR");
        Trial all = Trial.of("all", 0xBB, Bench.w(0xFFFF), 0xBA, Bench.w(0xFFFF));
        for (int n = 0; n < 14; n++) {
            all.reg(n, 0x100 + n);
        }
        all.status(15).run(1).fine().flags(15).is(14, STACK - 60).holds(STACK - 4, 4, STACK).holds(STACK - 60, 4, 0x100)
            .holds(STACK - 8, 4, 0x10D);
        for (int n = 0; n < 14; n++) {
            all.reg(n, 0);
        }
        all.run(1).fine().is(14, STACK).is(0, 0x100).is(13, 0x10D).flags(15);
        Trial.of("none", 0xBB, 0x00).run(1).fine().is(14, STACK);
        Trial.of("bit 15 is none", 0xBB, Bench.w(0x8000)).run(1).fine().is(14, STACK);
        Trial.of("POPR, none", 0xBA, Bench.w(0x8000)).run(1).fine().is(14, STACK);
        Trial.of("just enough", 0xBB, 0x03).reg(14, 8).run(1).fine().is(14, 0);
        Trial.of("one fewer", 0xBB, 0x03).reg(14, 7).run(1).fault(CHECK, 0, -1).reads(0, 7);
        Trial.of("POPR at the end", 0xBA, 0x03).reg(14, END - 8).longs(END - 8, 1, 2).run(1).fine().is(14, END).is(0, 1).is(1, 2);
        Trial.of("POPR behind the end", 0xBA, 0x03).reg(14, END - 4).longs(END - 4, 1).run(1).fault(CHECK, 0, END).is(0, 0).reads(0, END - 4);
        Trial.of("all bytes of what is popped", 0xBA, 0x03).longs(STACK, 0x89ABCDEF, 0xFEDCBA98).run(1).fine().is(0, 0x89ABCDEF).is(1, 0xFEDCBA98);
        Trial.of("all bytes of what is pushed", 0xBB, 0x03).reg(0, 0x89ABCDEF).reg(1, 0xFEDCBA98).run(1).fine().holds(STACK - 8, 8, 0xFEDCBA9889ABCDEFL);
        Trial.of("POPR of SP", 0xBA, Bench.w(0x4001)).longs(STACK, 5, 777).run(1).fine().is(0, 5).is(14, 777);
    }

    public static void main(String[] args) {
        sizes();
        values();
        bits();
        absoluteQueues();
        queuesOfSystem();
        relativeQueues();
        calls();
        returns();
        registerMasks();
        Bench.end("edges of fields");
    }
}
