/** OPERANDS: every specifier with every use and size, what each leaves, and the order in which they are worked out. */
public final class EdgesOfOperands {
    private static final int ADDRESSING_FAULT = 28;
    private static final int MACHINE_CHECK = 4;
    private static final int CODE = Trial.CODE;
    private static final int DATA = Trial.DATA;
    private static final int STACK = Trial.STACK;
    private static final int END = Trial.END;

    /** An instruction with one operand that is looked at: its use and size, and what stands ahead of it and behind. */
    private record Use(String name, char how, int size, int[] ahead, int[] behind) {
    }

    private static final Use[] USES = {
        new Use("TSTB", 'r', 1, Bench.code(0x95), Bench.code()), new Use("TSTW", 'r', 2, Bench.code(0xB5), Bench.code()),
        new Use("TSTL", 'r', 4, Bench.code(0xD5), Bench.code()), new Use("TSTF", 'r', 4, Bench.code(0x53), Bench.code()),
        new Use("TSTD", 'r', 8, Bench.code(0x73), Bench.code()),
        new Use("MOVQ", 'r', 8, Bench.code(0x7D), Bench.code(0x50)),
        new Use("INCB", 'm', 1, Bench.code(0x96), Bench.code()), new Use("INCW", 'm', 2, Bench.code(0xB6), Bench.code()),
        new Use("INCL", 'm', 4, Bench.code(0xD6), Bench.code()), new Use("ADDF2", 'm', 4, Bench.code(0x40, 0x08), Bench.code()),
        new Use("ADDD2", 'm', 8, Bench.code(0x60, 0x08), Bench.code()),
        new Use("AOBLSS", 'm', 4, Bench.code(0xF2, 0x00), Bench.code(0x00)),
        new Use("CLRB", 'w', 1, Bench.code(0x94), Bench.code()), new Use("CLRW", 'w', 2, Bench.code(0xB4), Bench.code()),
        new Use("CLRL", 'w', 4, Bench.code(0xD4), Bench.code()), new Use("CLRQ", 'w', 8, Bench.code(0x7C), Bench.code()),
        new Use("PUSHAB", 'a', 1, Bench.code(0x9F), Bench.code()), new Use("PUSHAW", 'a', 2, Bench.code(0x3F), Bench.code()),
        new Use("PUSHAL", 'a', 4, Bench.code(0xDF), Bench.code()), new Use("PUSHAQ", 'a', 8, Bench.code(0x7F), Bench.code()),
        new Use("BBC", 'v', 1, Bench.code(0xE1, 0x00), Bench.code(0x00)),
        new Use("INSV", 'v', 1, Bench.code(0xF0, 0x00, 0x00, 0x01), Bench.code()),
    };

    private static boolean unfit(int specifier, char how, int size) {
        int n = specifier & 15;
        switch (specifier >> 4) {
            case 0: case 1: case 2: case 3:
                return how != 'r';
            case 4:
                return true;
            case 5:
                return how == 'a' || n == 15 || size == 8 && n > 13;
            case 6: case 7:
                return n == 15;
            case 8:
                return n == 15 && how != 'r';
            default:
                return false;
        }
    }

    private static int extra(int specifier, int size) {
        if (specifier == 0x8F) {
            return size;
        }
        int mode = specifier >> 4;
        return specifier == 0x9F || mode >= 14 ? 4 : mode >= 12 ? 2 : mode >= 10 ? 1 : 0;
    }

    private static Trial ready(String what, Object... code) {
        Trial t = Trial.of(what, code).longs(DATA, DATA + 64).longs(STACK, DATA + 64).longs(DATA - 8, DATA + 64, DATA + 64);
        for (int n = 0; n < 14; n++) {
            t.reg(n, DATA);
        }
        return t;
    }

    private static void everySpecifier() {
        Bench.part("every specifier");
        for (Use use : USES) {
            for (int s = 0; s < 256; s++) {
                int more = extra(s, use.size);
                int[] code = Bench.code(use.ahead, s, new int[more], use.behind);
                int[] whole = Bench.code(code, new int[8]);
                String what = use.name + " " + Integer.toHexString(s);
                Trial t = ready(what, whole).run(1);
                if (unfit(s, use.how, use.size)) {
                    t.fault(ADDRESSING_FAULT, 0);
                    continue;
                }
                t.fine().is(15, CODE + code.length);
                int n = s & 15;
                int change = s >> 4 == 7 ? -use.size : s >> 4 == 8 ? use.size : s >> 4 == 9 ? 4 : 0;
                boolean result = use.name.equals("MOVQ") && n < 2;
                if (n < 14 && s >> 4 > 5 && !result) {
                    t.is(n, DATA + change).is(14, STACK - (use.how == 'a' ? 4 : 0));
                } else if (n == 14 && s >> 4 > 5) {
                    t.is(14, STACK + change - (use.how == 'a' ? 4 : 0));
                }
            }
        }
    }

    private static void everyBase() {
        Bench.part("every specifier under an index");
        for (Use use : USES) {
            for (int index : new int[] {0, 13, 15}) {
                for (int s = 0; s < 256; s++) {
                    int n = s & 15;
                    if (n == index && s >= 0x50 && index != 15) {
                        continue;
                    }
                    int[] code = Bench.code(use.ahead, 0x40 + index, s, new int[s == 0x8F ? 0 : extra(s, use.size)], use.behind);
                    Trial t = ready(use.name + " " + Integer.toHexString(index) + " " + Integer.toHexString(s),
                        Bench.code(code, new int[8])).reg(index == 15 ? 1 : index, 0);
                    if (index == 15) {
                        t.reg(1, DATA);
                    }
                    t.run(1);
                    if (index == 15 || s < 0x60 || s == 0x8F || unfit(s, use.how, use.size)) {
                        t.fault(ADDRESSING_FAULT, 0);
                    } else {
                        t.fine().is(15, CODE + code.length);
                    }
                }
            }
        }
    }

    private static void whereFound() {
        Bench.part("where an ADDRESSING FAULT is found");
        Trial.of("ahead of the immediate's bytes", 0x01).bytes(END - 2, 0xD4, 0x8F).reg(15, END - 2).run(1)
            .pushed(ADDRESSING_FAULT, END - 2, 0);
        Trial.of("a literal that is written", 0x01).bytes(END - 2, 0xD4, 0x00).reg(15, END - 2).run(1)
            .pushed(ADDRESSING_FAULT, END - 2, 0);
        Trial.of("of an index at the base's", 0x01).bytes(END - 2, 0xD5, 0x4F).reg(15, END - 2).run(1)
            .pushed(MACHINE_CHECK, END - 2, 0, END);
        Trial.of("an index at the base", 0x01).bytes(END - 3, 0xD5, 0x4F, 0x61).reg(15, END - 3).run(1)
            .pushed(ADDRESSING_FAULT, END - 3, 0);
        Trial.of("the first operand's fault comes first", 0xD0, Bench.at(END), 0x05).run(1).fault(MACHINE_CHECK, 0, END);
        Trial.of("the second's behind the first's reading", 0xD0, 0x81, 0x05).reg(1, DATA).run(1).fault(ADDRESSING_FAULT, 0).is(1, DATA);
        Trial.of("a later one is not reached", 0xC1, 0x5F, Bench.at(END), 0x51).run(1).fault(ADDRESSING_FAULT, 0);
    }

    private static void lastRegisters() {
        Bench.part("the last registers");
        Trial.of("a Q in R13 and SP", 0x7D, 0x5D, 0x50).reg(13, 0x11).reg(14, 0x22).run(1).fine().is(0, 0x11).is(1, 0x22);
        Trial.of("a Q into R13 and SP", 0x7D, 0x50, 0x5D).reg(0, 0x33).reg(1, 0x44).run(1).fine().is(13, 0x33).is(14, 0x44);
        Trial.of("a D in R13", 0x70, 0x5D, 0x50).reg(13, 0x4080).reg(14, 5).run(1).fine().is(0, 0x4080).is(1, 5);
        Trial.of("an L in SP", 0xD0, 0x5E, 0x50).run(1).fine().is(0, STACK);
        Trial.of("an L into SP", 0xD0, 0x3F, 0x5E).run(1).fine().is(14, 63).reads(0, 63);
        for (int n = 0; n < 14; n++) {
            Trial.of("an index in each register", 0xDE, 0x40 + n, Bench.at(1000), 0x50 + (n + 1) % 14).reg(n, 7).run(1).fine().is((n + 1) % 14, 1028);
            Trial.of("an L in each register", 0xD0, Bench.l(0x89ABCDEF), 0x50 + n, 0xD5, 0x50 + n).run(2).fine().is(n, 0x89ABCDEF).flags(8);
        }
        Trial.of("SP as an index", 0x9E, 0x4E, 0x61, 0x52).reg(1, 4).run(1).fine().is(2, STACK + 4);
        Trial.of("a B changes the low bits alone", 0x90, 0x05, 0x51).reg(1, -1).run(1).is(1, 0xFFFFFF05);
        Trial.of("a W changes the low bits alone", 0xB0, 0x05, 0x51).reg(1, -1).run(1).is(1, 0xFFFF0005);
        Trial.of("an L changes all", 0xD0, 0x05, 0x51).reg(1, -1).run(1).is(1, 5);
        Trial.of("m of a B", 0x96, 0x51).reg(1, 0x123456FF).run(1).is(1, 0x12345600).flags(5);
        Trial.of("m of a W", 0xB6, 0x51).reg(1, 0x1234FFFF).run(1).is(1, 0x12340000).flags(5);
    }

    private static void literals() {
        Bench.part("literals");
        for (int bits = 0; bits < 64; bits++) {
            int word = 128 + (bits >> 3) << 7 | (bits & 7) << 4;
            Trial.of("F literal " + bits, 0x50, bits, 0x51).reg(1, -1).run(1).fine().is(1, word);
            Trial.of("D literal " + bits, 0x70, bits, 0x51).reg(1, -1).reg(2, -1).run(1).fine().is(1, word).is(2, 0);
            Trial.of("F literal of a sum", 0x41, bits, Bench.l(0), 0x51).run(1).fine().is(1, word);
            Trial.of("D literal of a sum", 0x61, bits, Bench.q(0), 0x51).reg(2, -1).run(1).fine().is(1, word).is(2, 0);
            Trial.of("Q literal " + bits, 0x7D, bits, 0x51).reg(2, -1).run(1).fine().is(1, bits).is(2, 0);
            Trial.of("L literal " + bits, 0xD0, bits, 0x51).run(1).fine().is(1, bits).flags(bits == 0 ? 4 : 0);
        }
    }

    private static void addresses() {
        Bench.part("addresses");
        Trial.of("an index behind (Rn)+", 0xDE, 0x41, 0x81, 0x52).reg(1, 8).run(1).fine().is(2, 8 + 4 * 12).is(1, 12);
        Trial.of("an index behind -(Rn)", 0xDE, 0x41, 0x71, 0x52).reg(1, 8).run(1).fine().is(2, 4 + 4 * 4).is(1, 4);
        Trial.of("an index behind @(Rn)+", 0x3E, 0x41, 0x91, 0x52).reg(1, DATA).longs(DATA, 100).run(1).fine()
            .is(2, 100 + 2 * (DATA + 4));
        int[][] sized = {{0x9E, 1}, {0x3E, 2}, {0xDE, 4}, {0x7E, 8}};
        for (int[] one : sized) {
            Trial.of("an index times the size", one[0], 0x41, 0x62, 0x53).reg(1, -3).reg(2, 1000).run(1).fine().is(3, 1000 - 3 * one[1]);
            Trial.of("grows by the size", one[0], 0x82, 0x53).reg(2, 1000).run(1).fine().is(3, 1000).is(2, 1000 + one[1]);
            Trial.of("falls by the size", one[0], 0x72, 0x53).reg(2, 1000).run(1).fine().is(3, 1000 - one[1]).is(2, 1000 - one[1]);
        }
        Trial.of("the least B", 0x9E, 0xA1, 0x80, 0x52).reg(1, 1000).run(1).is(2, 872);
        Trial.of("the greatest B", 0x9E, 0xA1, 0x7F, 0x52).reg(1, 1000).run(1).is(2, 1127);
        Trial.of("the least W", 0x9E, 0xC1, 0x00, 0x80, 0x52).reg(1, 40000).run(1).is(2, 7232);
        Trial.of("the greatest W", 0x9E, 0xC1, 0xFF, 0x7F, 0x52).reg(1, 1).run(1).is(2, 32768);
        Trial.of("the least L", 0x9E, 0xE1, Bench.spread(Integer.MIN_VALUE, 4), 0x52).reg(1, 1).run(1).is(2, 0x80000001);
        Trial.of("PC and a B", 0x9E, 0xAF, 4, 0x52).run(1).is(2, CODE + 3 + 4);
        Trial.of("PC and a W", 0x9E, 0xCF, 4, 0, 0x52).run(1).is(2, CODE + 4 + 4);
        Trial.of("PC and an L", 0x9E, 0xEF, 4, 0, 0, 0, 0x52).run(1).is(2, CODE + 6 + 4);
        Trial.of("PC and a B, indexed", 0x9E, 0x41, 0xAF, 4, 0x52).reg(1, 3).run(1).is(2, CODE + 4 + 4 + 3);
        Trial.of("at the address that lies behind PC", 0x9E, 0xBF, 1, 0x52, 0x44, 0x33, 0x22, 0x11).run(1).is(2, 0x11223344);
        Trial.of("the second operand's PC", 0xC1, 0x05, 0xEF, Bench.spread(-7, 4), 0x52).run(1).is(2, 0xF9EF05C6).fine();
        Trial deferred = Trial.mapped("all bytes of an address", 0xD0, 0x91, 0x52, 0xD0, 0xB1, 0xFC, 0x53, 0xD0, 0xFF, Bench.spread(2, 4), 0x54, 0x01)
            .longs(CODE + 15, 0x80001000);
        deferred.longs(DATA, 0x89ABCDEF).longs(16 * 512, 0x80001000, 77).reg(1, 0).run(2).fine().is(2, 0x89ABCDEF).is(3, 0x89ABCDEF).is(1, 4);
        deferred.run(1).fine().is(4, 0x89ABCDEF);
        Trial.of("the L that lies at the end", 0x9E, 0x91, 0x52).reg(1, END - 4).longs(END - 4, 7).run(1).fine().is(2, 7).is(1, END);
        Trial.of("the L that does not", 0x9E, 0x91, 0x52).reg(1, END - 3).run(1).fault(MACHINE_CHECK, 0, END).is(1, END - 3);
        Trial.of("an address at a displacement, the last L", 0x9E, 0xB1, 1, 0x52).reg(1, END - 5).longs(END - 4, 7).run(1).fine().is(2, 7);
        Trial.of("an address at a displacement, not there", 0x9E, 0xB1, 1, 0x52).reg(1, END - 4).run(1).fault(MACHINE_CHECK, 0, END);
    }

    private static void order() {
        Bench.part("order");
        Trial.of("each wholly ahead of the next", 0xC3, 0x81, 0x71, 0x52).reg(1, DATA).longs(DATA, 77, 5).run(1).fine().is(2, 0).is(1, DATA);
        Trial.of("read at its turn", 0xC1, 0x51, 0x81, 0x52).reg(1, DATA).longs(DATA, 7).run(1).is(2, DATA + 7);
        Trial.of("read behind a change", 0xC1, 0x81, 0x51, 0x52).reg(1, DATA).longs(DATA, 7).run(1).is(2, DATA + 4 + 7);
        Trial.of("from and to", 0xD0, 0x81, 0x81).reg(1, DATA).longs(DATA, 0x77).run(1).fine().holds(DATA + 4, 4, 0x77).is(1, DATA + 8);
        Trial.of("a register's value ahead of its growing", 0xD0, 0x51, 0x81).reg(1, DATA).run(1).fine().holds(DATA, 4, DATA);
        Trial.of("the result counts", 0xD0, 0x81, 0x51).reg(1, DATA).longs(DATA, 0x77).run(1).is(1, 0x77);
        Trial.of("the half of a result counts", 0x7D, 0x81, 0x50).reg(1, DATA).longs(DATA, 0x77, 0x88).run(1).is(0, 0x77).is(1, 0x88);
        Trial.of("a B of it", 0x90, 0x81, 0x51).reg(1, DATA + 0x10).bytes(DATA + 0x10, 0x77).run(1).is(1, 0x1077);
        Trial.of("results from the left: the last counts", 0x7B, 0x05, Bench.q(17), 0x51, 0x51).run(1).fine().is(1, 2);
        Trial.of("in memory, too", 0x7B, 0x05, Bench.q(17), Bench.at(DATA), Bench.at(DATA + 2)).run(1).fine().holds(DATA, 8, 0x20003);
        Trial.of("m is read ahead of the displacement", 0x01).bytes(END - 7, Bench.code(0xF2, 0x05, Bench.at(0x7000))).reg(15, END - 7)
            .run(1).pushed(MACHINE_CHECK, END - 7, 0, 0x7000);
        Trial.of("a displacement that is not there", 0x01).bytes(END - 7, Bench.code(0xF2, 0x05, Bench.at(DATA))).reg(15, END - 7)
            .run(1).pushed(MACHINE_CHECK, END - 7, 0, END).holds(DATA, 4, 0);
        Trial over = Trial.mapped("in two pages, changed in place", 0xC0, Bench.l(0x01010101), Bench.at(510)).longs(Trial.PROCESS_TABLE + 4, 0xA0000014);
        over.bytes(17 * 512 - 2, 1, 2).bytes(20 * 512, 3, 4, 5).run(1).fine().holds(17 * 512 - 2, 2, 0x0302).holds(20 * 512, 4, 0x050504);
        over.holds(17 * 512, 4, 0);
        over = Trial.mapped("two results, both in two pages", 0x7B, Bench.l(0x1000000), Bench.q(0x0011223344556677L), Bench.at(511), Bench.at(1022));
        over.longs(Trial.PROCESS_TABLE + 4, 0xA0000014, 0xA0000018).run(1).fine().holds(17 * 512 - 1, 1, 0x44).holds(20 * 512, 4, 0x112233);
        over.holds(21 * 512 - 2, 2, 0x6677).holds(24 * 512, 2, 0x0055).holds(17 * 512, 4, 0).holds(21 * 512, 4, 0);
        over = Trial.mapped("two results, one in two pages", 0x7B, Bench.l(0x1000000), Bench.q(0x0011223344556677L), Bench.at(4), Bench.at(511));
        over.longs(Trial.PROCESS_TABLE + 4, 0xA0000014).run(1).fine().holds(16 * 512 + 4, 4, 0x11223344).holds(17 * 512 - 1, 1, 0x77);
        over.holds(20 * 512, 4, 0x005566);
        Trial once = Trial.mapped("m is translated once", 0x01).longs(Trial.PROCESS_TABLE + 64, 0xA0000018, 0xA0000019).special(9, 18).reg(15, 505);
        once.bytes(17 * 512 - 7, Bench.code(0xF2, 0x05, Bench.at(17 * 512 + 8))).run(1).fine().holds(25 * 512 + 8, 4, 1);
        once.kept(1, 512, 0xA0000011L).holds(Trial.PROCESS_TABLE + 68, 4, 0xA4000019L);
        Trial.of("results see what operands left", 0xDD, 0x8E).longs(STACK, 0x55).run(1).fine().holds(STACK, 4, 0x55).is(14, STACK);
        Trial.of("an address ahead of the push", 0x9F, 0x6E).run(1).fine().holds(STACK - 4, 4, STACK).is(14, STACK - 4);
    }

    /** A pointer that can't be read: its own fault is told, whatever the operand ahead of it was. */
    private static void pointers() {
        Bench.part("pointers");
        int[] readable = Bench.at(5);
        int bad = 0xC0000000;
        for (int[] pointer : new int[][] {{0x91}, {0xB1, 0}, {0xD1, 0, 0}, {0xF1, 0, 0, 0, 0}}) {
            Trial t = Trial.mapped("a pointer " + pointer[0], 0xC0, readable, pointer).reg(1, bad);
            t.longs(Trial.PROCESS_TABLE, 1 << 31 | 15 << 27 | 16).run(1).fault(32, 0, bad, 1).is(1, bad);
        }
        Trial t = Trial.mapped("a displacement that can't be read", 0x01).reg(15, 505).bytes(17 * 512 - 7, Bench.code(0xC0, readable, 0xA1));
        t.longs(Trial.PROCESS_TABLE, 1 << 31 | 15 << 27 | 16, 0).run(1).pushed(32, 505, 0, 512, 0);
    }

    /** Results of an earlier instruction are not stored again. */
    private static void oneBehindTheOther() {
        Bench.part("one behind the other");
        Trial.of("in registers", 0x7B, 0x05, Bench.q(17), 0x51, 0x52, 0xD0, 0x09, 0x52).run(2).fine().is(1, 3).is(2, 9);
        Trial.of("in memory", 0x7B, 0x05, Bench.q(17), Bench.at(DATA), Bench.at(DATA + 4), 0xD0, 0x09, Bench.at(DATA + 4)).run(2).fine()
            .holds(DATA, 8, 9L << 32 | 3);
        Trial.of("in two pages, then in one", 0xD0, Bench.l(-1), Bench.at(DATA + 510), 0xE2, 0x00, Bench.at(DATA + 16), 0x00).run(2).fine()
            .holds(DATA + 508, 8, 0x0000FFFFFFFF0000L).holds(DATA + 16, 4, 1);
        Trial.of("pushes", 0xBB, 0x3F, 0xDD, 0x09).reg(0, 1).run(2).fine().holds(STACK - 28, 8, 1L << 32 | 9).is(14, STACK - 28);
    }

    private static void undone() {
        Bench.part("what a fault undoes");
        Trial.of("registers, PC and STATUS", 0xC1, 0x81, 0x72, Bench.at(END)).reg(1, DATA).reg(2, DATA + 8).status(0x6F)
            .run(1).fault(MACHINE_CHECK, 0x6F, END).is(1, DATA).is(2, DATA + 8);
        Trial.of("TP becomes 0", 0xD4, Bench.at(END)).status(0x10).run(1).fault(MACHINE_CHECK, 0x10, END);
        Trial.of("an L at @(Rn)+", 0xD5, 0x91).reg(1, DATA).longs(DATA, END).run(1).fault(MACHINE_CHECK, 0, END).is(1, DATA);
        Trial.of("SP", 0xD0, 0x8E, Bench.at(END)).run(1).fault(MACHINE_CHECK, 0, END).reads(0, STACK);
        Trial.of("two results, the second is not there", 0x7B, 0x05, Bench.q(17), Bench.at(DATA), Bench.at(END)).run(1)
            .fault(MACHINE_CHECK, 0, END).holds(DATA, 4, 0);
        Trial.of("a result in a register does not come", 0x7B, 0x05, Bench.q(17), 0x51, Bench.at(END)).run(1)
            .fault(MACHINE_CHECK, 0, END).is(1, 0);
        Trial mapped = Trial.mapped("translations from the left stay", 0x7B, 0x05, Bench.q(17), Bench.at(0), Bench.at(16 * 512)).run(1);
        mapped.fault(32, 0, 16 * 512, 5).holds(Trial.PROCESS_TABLE, 4, 0xA4000010L).holds(16 * 512, 4, 0);
        Trial.of("CASE's W", 0x01).bytes(END - 5, 0xCF, 0x81, 0x00, 0x3F, 0x00).reg(15, END - 5).reg(1, DATA).longs(DATA, 1).status(7)
            .run(1).pushed(MACHINE_CHECK, END - 5, 7, END + 1).is(1, DATA);
        Trial.of("CASE's W, half", 0x01).bytes(END - 5, 0xCF, 0x81, 0x00, 0x3F, 0x00).reg(15, END - 5).reg(1, DATA).run(1)
            .pushed(MACHINE_CHECK, END - 5, 0, END);
    }

    public static void main(String[] args) {
        everySpecifier();
        everyBase();
        whereFound();
        lastRegisters();
        literals();
        addresses();
        order();
        pointers();
        oneBehindTheOther();
        undone();
        Bench.end("edges of operands");
    }
}
