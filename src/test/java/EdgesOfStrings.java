/** STRINGS: counts of 0, strings at and behind a step's rounds, what goes on with FPD, and rounds that fail. */
public final class EdgesOfStrings {
    private static final int CODE = Trial.CODE;
    private static final int DATA = Trial.DATA;
    private static final int TO = DATA + 0x400;
    private static final int TABLE = DATA + 0x800;
    private static final int END = Trial.END;
    private static final int FPD = 0x08000000;
    private static final int CHECK = 4;
    private static final int NOWHERE = -1;

    private static Trial goingOn(String what, int... code) {
        return Trial.of(what, code).status(FPD);
    }

    private static void none() {
        Bench.part("counts of 0");
        Trial.of("MOVC3", 0x28, 0x00, Bench.at(NOWHERE), Bench.at(END)).reg(5, 9).status(11).run(1).fine().flags(4).is(0, 0).is(1, NOWHERE)
            .is(2, 0).is(3, END).is(4, 0).is(5, 0).is(15, CODE + 12);
        Trial.of("MOVC5, both", 0x2C, 0x00, Bench.at(NOWHERE), 0x20, 0x00, Bench.at(END)).run(1).fine().flags(4);
        Trial.of("MOVC5, the first", 0x2C, 0x00, Bench.at(NOWHERE), 0x20, 0x02, Bench.at(TO)).run(1).fine().flags(9).holds(TO, 4, 0x2020)
            .is(0, 0).is(1, NOWHERE).is(3, TO + 2);
        Trial.of("MOVC5, the second", 0x2C, 0x02, Bench.at(NOWHERE), 0x20, 0x00, Bench.at(END)).run(1).fine().flags(0).is(0, 2).is(1, NOWHERE);
        Trial.of("MOVTC, both", 0x2E, 0x00, Bench.at(NOWHERE), 0x20, Bench.at(END), 0x00, Bench.at(END)).reg(5, 9).run(1).fine().flags(4).is(5, 0);
        Trial.of("MOVTC, the first", 0x2E, 0x00, Bench.at(NOWHERE), 0x21, Bench.at(END), 0x01, Bench.at(TO)).run(1).fine().holds(TO, 2, 0x21);
        Trial.of("MOVTUC, the first", 0x2F, 0x00, Bench.at(NOWHERE), 0x21, Bench.at(END), 0x01, Bench.at(END)).run(1).fine().flags(9)
            .is(0, 0).is(2, 1).is(3, END);
        Trial.of("MOVTUC, the second", 0x2F, 0x01, Bench.at(NOWHERE), 0x21, Bench.at(END), 0x00, Bench.at(END)).run(1).fine().flags(0).is(0, 1);
        Trial.of("CMPC3", 0x29, 0x00, Bench.at(NOWHERE), Bench.at(END)).status(11).run(1).fine().flags(4).is(1, NOWHERE).is(3, END);
        Trial.of("CMPC5, both", 0x2D, 0x00, Bench.at(NOWHERE), 0x20, 0x00, Bench.at(END)).run(1).fine().flags(4);
        Trial.of("CMPC5, the first", 0x2D, 0x00, Bench.at(NOWHERE), 0x20, 0x01, Bench.at(TO)).bytes(TO, 0x20).run(1).fine().flags(4).is(2, 0)
            .is(3, TO + 1);
        Trial.of("CMPC5, the second", 0x2D, 0x01, Bench.at(TO), 0x20, 0x00, Bench.at(END)).bytes(TO, 0x1F).run(1).fine().flags(9).is(0, 1);
        for (int opcode : new int[] {0x3A, 0x3B}) {
            Trial.of("LOCC, SKPC", opcode, 0x20, 0x00, Bench.at(END)).reg(3, 9).status(11).run(1).fine().flags(4).is(0, 0).is(1, END)
                .is(2, 0).is(3, 0);
        }
        for (int opcode : new int[] {0x2A, 0x2B}) {
            Trial.of("SCANC, SPANC", opcode, 0x00, Bench.at(END), Bench.at(NOWHERE), 0x01).status(11).run(1).fine().flags(4).is(0, 0)
                .is(1, END).is(2, 0).is(3, NOWHERE);
        }
        Trial.of("MATCHC, the object", 0x39, 0x00, Bench.at(NOWHERE), 0x05, Bench.at(END)).status(11).run(1).fine().flags(4).is(0, 0)
            .is(1, NOWHERE).is(2, 5).is(3, END).is(4, 0).is(5, 0);
        Trial.of("MATCHC, the string", 0x39, 0x01, Bench.at(NOWHERE), 0x00, Bench.at(END)).status(15).run(1).fine().flags(0).is(0, 1)
            .is(1, NOWHERE).is(2, 0).is(3, END);
        Trial.of("MATCHC, both", 0x39, 0x00, Bench.at(NOWHERE), 0x00, Bench.at(END)).run(1).fine().flags(4);
        Trial.of("CRC", 0x0B, Bench.at(NOWHERE), Bench.l(-5), 0x00, Bench.at(END)).status(3).run(1).fine().flags(8).is(0, -5).is(1, 0)
            .is(2, 0).is(3, END);
        Trial.of("CRC of 0", 0x0B, Bench.at(NOWHERE), 0x00, 0x00, Bench.at(END)).run(1).fine().flags(4);
    }

    /** A string that needs so many rounds, its last one included: after each step, whether it has ended. */
    private static void rounds(String what, int rounds, int length, Trial t) {
        int steps = (rounds + 99) / 100;
        for (int i = 1; i < steps; i++) {
            t.run(1).state(7, 0).is(15, CODE).is(16, FPD | 3);
            Bench.due(what + ": bytes of the instruction", t.x.register(2) >> 16, length);
        }
        t.run(1).state(7, 1).is(15, CODE + length).state(2, 0);
        Bench.due(what + ": FPD", t.x.register(16) & FPD, 0);
        Bench.due(what + ": R2's upper bits", t.x.register(2) >> 16, 0);
    }

    private static void hundred() {
        Bench.part("a step's rounds");
        for (int n : new int[] {98, 99, 100, 101, 199, 200, 201}) {
            int[] count = Bench.w(n);
            rounds("MOVC3", n + 1, 14, Trial.of("MOVC3 " + n, 0x28, count, Bench.at(DATA), Bench.at(TO)).status(3));
            rounds("MOVC5", n + 1, 16, Trial.of("MOVC5 " + n, 0x2C, 0x05, Bench.at(DATA), 0x20, count, Bench.at(TO)).status(3));
            rounds("CMPC3", n + 1, 14, Trial.of("CMPC3 " + n, 0x29, count, Bench.at(DATA), Bench.at(TO)).status(3));
            rounds("LOCC", n + 1, 10, Trial.of("LOCC " + n, 0x3A, 0x20, count, Bench.at(DATA)).status(3));
            rounds("SKPC that finds", n, 10, Trial.of("SKPC " + n, 0x3B, 0x00, Bench.w(1000), Bench.at(DATA)).bytes(DATA + n - 1, 1).status(3));
            rounds("SCANC", n + 1, 15, Trial.of("SCANC " + n, 0x2A, count, Bench.at(DATA), Bench.at(TABLE), 0x01).status(3));
            rounds("CRC", n + 1, 15, Trial.of("CRC " + n, 0x0B, Bench.at(TABLE), 0x00, count, Bench.at(DATA)).status(3));
            rounds("MATCHC", n + 1, 17, Trial.of("MATCHC " + n, 0x39, count, Bench.at(DATA), Bench.w(n + 300), Bench.at(TO)).status(3));
        }
    }

    private static void moves() {
        Bench.part("moves");
        Trial.of("one byte", 0x28, 0x01, Bench.at(DATA), Bench.at(TO)).bytes(DATA, 7, 8).run(1).fine().holds(TO, 2, 7).is(1, DATA + 1).is(3, TO + 1);
        Trial.of("upwards over itself", 0x28, 0x05, Bench.at(DATA), Bench.at(DATA + 1)).bytes(DATA, 7, 8).run(1).holds(DATA, 8, 0x0000070707070707L);
        Trial.of("downwards over itself", 0x28, 0x03, Bench.at(DATA + 1), Bench.at(DATA)).bytes(DATA, 7, 8, 9, 10).run(1).holds(DATA, 4, 0x0A0A0908);
        int[][] counts = {{2, 3, 9}, {3, 3, 4}, {3, 2, 0}, {0x8000, 1, 8}, {1, 0x8000, 1}, {0xFFFF, 0, 8}, {0, 0xFFFF, 1}};
        for (int[] c : counts) {
            Trial.of("counts " + c[0] + " and " + c[1], 0x2C, Bench.w(c[0]), Bench.at(END), 0x20, Bench.w(c[1]), Bench.at(END)).run(1)
                .is(4, c[1] == 0 ? 0 : 0x20 | c[2] << 8);
        }
        Trial.of("the first is longer", 0x2C, 0x05, Bench.at(DATA), 0x20, 0x02, Bench.at(TO)).bytes(DATA, 1, 2, 3).run(1).fine().flags(0)
            .holds(TO, 4, 0x0201).is(0, 3).is(1, DATA + 2).is(2, 0).is(3, TO + 2);
        Trial.of("the second is longer", 0x2C, 0x01, Bench.at(DATA), Bench.b(0xFF), 0x03, Bench.at(TO)).bytes(DATA, 1, 2, 3).run(1).fine()
            .flags(9).holds(TO, 4, 0xFFFF01).is(0, 0).is(1, DATA + 1);
        Trial.of("the greatest count", 0x28, Bench.w(0xFFFF), Bench.at(DATA), Bench.at(DATA)).run(123).is(0, 0xFFFF - 12288)
            .pushed(CHECK, CODE, FPD, END);
        Trial.of("a table's last byte", 0x2E, 0x01, Bench.at(DATA), 0x20, Bench.at(TABLE), 0x02, Bench.at(TO)).bytes(DATA, 0xFF)
            .bytes(TABLE + 255, 0x77, 0x88).run(1).fine().holds(TO, 4, 0x2077).flags(9);
        Trial.of("a table's first byte", 0x2E, 0x01, Bench.at(DATA), 0x20, Bench.at(TABLE), 0x01, Bench.at(TO)).bytes(TABLE, 0x66).run(1)
            .fine().holds(TO, 2, 0x66).flags(4);
        Trial.of("fill is not looked up", 0x2E, 0x00, Bench.at(DATA), 0x20, Bench.at(TABLE), 0x01, Bench.at(TO)).bytes(TABLE + 0x20, 0x66).run(1)
            .holds(TO, 1, 0x20);
        Trial.of("the escape comes first", 0x2F, 0x02, Bench.at(DATA), 0x00, Bench.at(TABLE), 0x02, Bench.at(TO)).longs(TO, -1).run(1).fine()
            .flags(6).is(0, 2).is(1, DATA).is(2, 2).is(3, TO).is(4, 0).is(5, 0).holds(TO, 1, 0xFF);
        Trial.of("no escape", 0x2F, 0x02, Bench.at(DATA), 0x01, Bench.at(TABLE), 0x02, Bench.at(TO)).longs(TO, -1).status(2).run(1).fine()
            .flags(4).holds(TO, 4, 0xFFFF0000L);
        Trial.of("the place is full ahead of the escape", 0x2F, 0x02, Bench.at(DATA), 0x01, Bench.at(TABLE), 0x01, Bench.at(TO))
            .bytes(DATA, 0, 5).bytes(TABLE + 5, 1).run(1).fine().flags(0).is(0, 1);
        Trial.of("no more to move ahead of the place", 0x2F, 0x01, Bench.at(DATA), 0x01, Bench.at(TABLE), 0x05, Bench.at(TO)).longs(TO, -1)
            .run(1).fine().flags(9).is(0, 0).is(2, 4).holds(TO, 4, 0xFFFFFF00L);
        int[] up = new int[256];
        for (int i = 0; i < 256; i++) {
            up[i] = 255 - i;
        }
        Trial.of("MOVTUC's table", 0x2F, 0x05, Bench.at(DATA), 0x07, Bench.at(TABLE), 0x05, Bench.at(TO)).bytes(TABLE, up)
            .bytes(DATA, 0, 1, 254, 248, 3).run(1).fine().flags(6).holds(TO, 8, 0x01FEFF).is(0, 2).is(1, DATA + 3).is(2, 2).is(3, TO + 3);
        Trial.of("MOVTC's table", 0x2E, 0x03, Bench.at(DATA), 0x07, Bench.at(TABLE), 0x05, Bench.at(TO)).bytes(TABLE, up)
            .bytes(DATA, 0, 1, 254).run(1).fine().flags(9).holds(TO, 8, 0x070701FEFFL);
        Trial.of("a table's address wraps", 0x2E, 0x01, Bench.at(DATA), 0x20, Bench.at(-1), 0x01, Bench.at(TO)).bytes(DATA, 1).bytes(0, 0x55)
            .run(1).fine().holds(TO, 1, 0x55);
    }

    private static void comparisons() {
        Bench.part("comparisons");
        int[][] bytes = {{0x7F, 0x80, 1}, {0x80, 0x7F, 8}, {0, 0xFF, 1}, {0xFF, 0, 8}, {1, 2, 9}, {2, 1, 0}, {0xFE, 0xFF, 9}};
        for (int[] b : bytes) {
            Trial.of("CMPC3", 0x29, 0x03, Bench.at(DATA), Bench.at(TO)).bytes(DATA, 5, b[0]).bytes(TO, 5, b[1]).status(6).run(1).fine().flags(b[2])
                .is(0, 2).is(1, DATA + 1).is(2, 2).is(3, TO + 1).is(4, 0).is(5, 0);
        }
        Trial.of("like to the last", 0x29, 0x03, Bench.at(DATA), Bench.at(TO)).bytes(DATA, 1, 2, 3, 4).bytes(TO, 1, 2, 3, 5).run(1).flags(4)
            .is(0, 0).is(1, DATA + 3).is(2, 0).is(3, TO + 3);
        Trial.of("the last differs", 0x29, 0x04, Bench.at(DATA), Bench.at(TO)).bytes(DATA, 1, 2, 3, 4).bytes(TO, 1, 2, 3, 5).run(1).flags(9).is(0, 1);
        Trial.of("fill", 0x2D, 0x02, Bench.at(DATA), 0x20, 0x04, Bench.at(TO)).bytes(DATA, 1, 2).bytes(TO, 1, 2, 0x20, 0x21).run(1).flags(9)
            .is(0, 0).is(1, DATA + 2).is(2, 1).is(3, TO + 3);
        Trial.of("fill on the other side", 0x2D, 0x04, Bench.at(DATA), 0x20, 0x02, Bench.at(TO)).bytes(TO, 1, 2).bytes(DATA, 1, 2, 0x20, 0x20)
            .run(1).flags(4).is(0, 0).is(1, DATA + 4).is(3, TO + 2);
        Trial.of("an odd fill", 0x2D, 0x00, Bench.at(DATA), 0x21, 0x01, Bench.at(TO)).bytes(TO, 0x20).reg(5, 9).run(1).flags(0).is(2, 1).is(4, 0).is(5, 0);
        Trial.of("what R4, R5 were", 0x29, Bench.w(100), Bench.at(DATA), Bench.at(TO)).reg(4, 77).reg(5, 88).run(1).is(16, FPD).is(4, 0).is(5, 88)
            .run(1).fine1().is(4, 0).is(5, 0).is(6, 0);
        Trial.of("LOCC at the first", 0x3A, 0x00, 0x05, Bench.at(DATA)).status(15).run(1).flags(0).is(0, 5).is(1, DATA);
        Trial.of("LOCC at the last", 0x3A, 0x09, 0x05, Bench.at(DATA)).bytes(DATA + 4, 9).run(1).flags(0).is(0, 1).is(1, DATA + 4);
        Trial.of("LOCC behind the last", 0x3A, 0x09, 0x04, Bench.at(DATA)).bytes(DATA + 4, 9).run(1).flags(4).is(0, 0).is(1, DATA + 4);
        Trial.of("SKPC at the last", 0x3B, 0x00, 0x05, Bench.at(DATA)).bytes(DATA + 4, 9).run(1).flags(0).is(0, 1);
        Trial.of("SKPC behind the last", 0x3B, 0x00, 0x04, Bench.at(DATA)).bytes(DATA + 4, 9).run(1).flags(4).is(0, 0);
        Trial.of("LOCC of the byte 255", 0x3A, Bench.b(0xFF), 0x02, Bench.at(DATA)).bytes(DATA, 0, 0xFF).run(1).flags(0).is(0, 1);
        Trial.of("SCANC, mask 0", 0x2A, 0x03, Bench.at(DATA), Bench.at(TABLE), 0x00).bytes(TABLE, 0xFF).run(1).flags(4).is(0, 0).is(3, TABLE);
        Trial.of("SPANC, mask 0", 0x2B, 0x03, Bench.at(DATA), Bench.at(TABLE), 0x00).bytes(TABLE, 0xFF).run(1).flags(0).is(0, 3);
        Trial.of("SCANC, bit 7", 0x2A, 0x03, Bench.at(DATA), Bench.at(TABLE), Bench.b(0x80)).bytes(DATA, 0, 0xFF).bytes(TABLE + 255, 0x80).run(1)
            .flags(0).is(0, 2).is(2, 0);
        Trial.of("SCANC of the byte 0", 0x2A, 0x03, Bench.at(DATA), Bench.at(TABLE), 0x01).bytes(DATA, 1, 0).bytes(TABLE, 1).run(1).flags(0).is(0, 2);
        Trial.of("SPANC of the byte 0", 0x2B, 0x03, Bench.at(DATA), Bench.at(TABLE), 0x01).bytes(DATA, 0, 1).bytes(TABLE, 1).run(1).flags(0).is(0, 2);
        Trial.of("SCANC's mask is a byte", 0x2A, Bench.w(100), Bench.at(DATA), Bench.at(TABLE), Bench.b(0x80)).run(1).is(2, 16 << 16 | 0x80).is(3, TABLE)
            .is(0, 0);
        Trial.of("LOCC's byte is one", 0x3A, Bench.b(0x80), Bench.w(100), Bench.at(DATA)).reg(3, 33).run(1).is(2, 11 << 16 | 0x80).is(3, 33);
        Trial.of("SCANC's table wraps", 0x2A, 0x01, Bench.at(DATA), Bench.at(-1), 0x01).bytes(DATA, 1).bytes(0, 1).run(1).fine().flags(0).is(3, -1);
        Trial.of("MATCHC, all of it", 0x39, 0x03, Bench.at(DATA), 0x03, Bench.at(TO)).bytes(DATA, 1, 2, 3).bytes(TO, 1, 2, 3).run(1).flags(4)
            .is(2, 0).is(3, TO + 3).is(0, 3).is(1, DATA);
        Trial.of("MATCHC, longer than the string", 0x39, 0x04, Bench.at(DATA), 0x03, Bench.at(TO)).run(1).flags(0).is(2, 0).is(3, TO + 3).is(0, 4);
        Trial.of("MATCHC at the end", 0x39, 0x02, Bench.at(DATA), 0x05, Bench.at(TO)).bytes(DATA, 1, 1).bytes(TO, 1, 0, 0, 1, 1).run(1).flags(4)
            .is(2, 0).is(3, TO + 5);
        Trial.of("MATCHC, one byte too few", 0x39, 0x02, Bench.at(DATA), 0x04, Bench.at(TO)).bytes(DATA, 1, 1).bytes(TO, 1, 0, 0, 1, 1).run(1)
            .flags(0).is(2, 0).is(3, TO + 4);
        Trial.of("MATCHC begins anew behind the first", 0x39, 0x03, Bench.at(DATA), 0x05, Bench.at(TO)).bytes(DATA, 1, 1, 2)
            .bytes(TO, 1, 1, 1, 2, 9).run(1).flags(4).is(2, 1).is(3, TO + 4);
        Trial.of("MATCHC of the byte 0", 0x39, 0x01, Bench.at(DATA), 0x03, Bench.at(TO)).bytes(TO, 5, 6, 0).reg(4, 77).reg(5, 88).run(1).fine().flags(4)
            .is(2, 0).is(3, TO + 3).is(4, 0).is(5, 0);
        Trial.of("MATCHC finds nothing, what R4, R5 were", 0x39, 0x01, Bench.at(DATA), 0x02, Bench.at(TO)).bytes(TO, 5, 6).reg(4, 77).reg(5, 88).run(1)
            .fine().flags(0).is(4, 0).is(5, 0);
        int[] table = new int[16];
        for (int i = 0; i < 16; i++) {
            table[i] = i * 0x11111111 ^ 0x80402010;
        }
        int crc = 0x89ABCDEF;
        for (int value : new int[] {0xFF, 0x5A, 0x00}) {
            crc ^= value;
            crc = crc >>> 4 ^ table[crc & 15];
            crc = crc >>> 4 ^ table[crc & 15];
        }
        Trial.of("CRC", 0x0B, Bench.at(TABLE), Bench.l(0x89ABCDEF), 0x03, Bench.at(DATA)).longs(TABLE, table).bytes(DATA, 0xFF, 0x5A, 0).status(3).run(1)
            .fine().is(0, crc).is(1, 0).is(2, 0).is(3, DATA + 3).flags((crc < 0 ? 8 : 0) | (crc == 0 ? 4 : 0));
        Trial.of("CRC's table wraps", 0x0B, Bench.at(-4), 0x00, 0x01, Bench.at(DATA)).bytes(DATA, 0x11).longs(0, 0x10000000).run(1).fine()
            .is(0, 0x11000000).flags(0);
        Trial.of("CRC's last entry", 0x0B, Bench.at(TABLE), 0x00, 0x01, Bench.at(DATA)).bytes(DATA, 0xFF).longs(TABLE + 60, 0x80000000).run(1)
            .fine().is(0, 0x88000000).flags(8);
    }

    private static void failing() {
        Bench.part("rounds that fail");
        Trial.of("the first round", 0x28, 0x05, Bench.at(END), 0x87).reg(7, TO).reg(5, 55).status(11).run(1).fault(CHECK, FPD | 11, END)
            .is(0, 5).is(1, END).is(2, 8 << 16 | 5).is(3, TO).is(4, 0x400).is(5, 55).is(7, TO + 1);
        Trial.of("the place of the first", 0x28, 0x05, Bench.at(DATA), Bench.at(END)).run(1).fault(CHECK, FPD, END).is(0, 5).is(3, END);
        Trial.of("a later one", 0x28, 0x05, Bench.at(END - 3), Bench.at(TO)).bytes(END - 3, 1, 2, 3).run(1).fault(CHECK, FPD, END).is(0, 2)
            .is(1, END).is(2, 12 << 16 | 2).is(3, TO + 3).holds(TO, 4, 0x030201);
        Trial.of("the end needs no access", 0x28, 0x03, Bench.at(END - 3), Bench.at(TO)).run(1).fine();
        Trial.of("the right side of CMPC", 0x29, 0x05, Bench.at(DATA), Bench.at(END - 2)).run(1).fault(CHECK, FPD, END).is(0, 3)
            .is(2, 12 << 16 | 3);
        Trial.of("a table", 0x2A, 0x05, Bench.at(DATA), Bench.at(END - 1), 0x01).bytes(DATA, 0, 1).run(1).fault(CHECK, FPD, END).is(0, 4);
        Trial.of("CRC's table", 0x0B, Bench.at(END - 4), 0x00, 0x02, Bench.at(DATA)).bytes(DATA, 0, 1).run(1).fault(CHECK, FPD, END).is(2, 13 << 16 | 1);
        Trial.of("MATCHC", 0x39, 0x03, Bench.at(END - 1), 0x05, Bench.at(TO)).run(1).fault(CHECK, FPD, END).is(4, 1);
        Trial.of("an operand's fault is none of a round", 0x28, Bench.at(END), 0x87, 0x88).run(1).fault(CHECK, 0, END).is(7, 0).is(0, 0);
        Trial t = Trial.mapped("it goes on behind a fault", 0x28, 0x08, Bench.at(508), Bench.at(S(TO)), 0x00).bytes(17 * 512 - 4, 1, 2, 3, 4)
            .bytes(20 * 512, 5, 6, 7, 8).longs(Trial.PROCESS_TABLE + 4, 0x20000014).run(1);
        t.fault(36, FPD, 512, 0).holds(TO, 8, 0x04030201L).longs(Trial.PROCESS_TABLE + 4, 0xA0000014).reg(16, FPD).reg(14, S(Trial.STACK)).again();
        t.run(1).holds(TO, 8, 0x0807060504030201L).is(15, S(CODE + 12)).flags(4).is(16, 4).state(7, 1);
    }

    /** Several on one computer: nothing of an earlier one stays in a later one. */
    private static void oneBehindTheOther() {
        Bench.part("one behind the other");
        int[] escape = Bench.code(0x2F, 0x01, Bench.at(DATA), 0x00, Bench.at(TABLE), 0x01, Bench.at(TO));
        Trial.of("V of an escape", Bench.code(escape, 0x28, 0x01, Bench.at(DATA), Bench.at(TO))).run(1).flags(6).run(1).fine().flags(4);
        Trial.of("V of an escape, MOVTUC", Bench.code(escape, 0x2F, 0x01, Bench.at(DATA), 0x01, Bench.at(TABLE), 0x01, Bench.at(TO))).run(2).fine().flags(4);
        Trial.of("one that ended, then a long one", 0x3A, 0x20, 0x01, Bench.at(DATA), 0x3A, 0x20, Bench.w(150), Bench.at(DATA)).run(1).state(7, 1).run(1)
            .state(7, 1).is(15, CODE + 8).run(1).state(7, 2).state(2, 0);
        int[] move = Bench.code(0x28, 0x01, Bench.at(DATA), Bench.at(TO));
        Trial t = Trial.of("a fault behind a string is none of a round", Bench.code(move, 0xD0, 0x87, Bench.at(END))).reg(7, DATA).run(2);
        t.pushed(CHECK, CODE + move.length, 4, END).is(7, DATA).state(7, 1);
        t = Trial.of("a fault of a round, then another", Bench.code(0x28, 0x05, Bench.at(END), Bench.at(TO))).run(1).fault(CHECK, FPD, END);
        t.bytes(CODE, Bench.code(0xD0, 0x87, Bench.at(END))).reg(16, 0).reg(14, Trial.STACK).reg(7, DATA).again().run(1).pushed(CHECK, CODE, 0, END)
            .is(7, DATA);
    }

    private static int S(int address) {
        return Trial.S | address;
    }

    private static void goesOn() {
        Bench.part("with FPD");
        for (int opcode = 0; opcode < 256; opcode++) {
            boolean string = opcode == 0x0B || opcode >= 0x28 && opcode <= 0x2F || opcode >= 0x39 && opcode <= 0x3B;
            Trial t = goingOn("FPD and " + Integer.toHexString(opcode), opcode, 0x51, 0x52).reg(2, 7 << 16).run(1);
            if (string) {
                t.fine().is(15, CODE + 7).is(2, 0);
            } else {
                t.fault(16, FPD);
            }
        }
        goingOn("operands are not looked at", 0x28, 0x5F).reg(0, 2).reg(1, DATA).reg(2, 0x00030002).reg(3, TO).bytes(DATA, 1, 2).run(1).fine()
            .holds(TO, 2, 0x0201).is(15, CODE + 3).is(0, 0);
        goingOn("R2's upper bits alone pass them over", 0x28).reg(2, 0xFFFF0000).run(1).is(15, CODE + 0xFFFF).is(2, 0);
        goingOn("none of them", 0x28).run(1).is(15, CODE);
        goingOn("R0's upper bits stay", 0x3B).reg(0, 0xABCD0002).reg(1, DATA).reg(2, 0x00010000).run(1).fine().is(0, 0xABCD0000).flags(4);
        goingOn("R0's upper bits stay in a move", 0x2C).reg(0, 0xABCD0001).reg(1, DATA).reg(2, 0x00010002).reg(3, TO).reg(4, 0x20).run(1).fine()
            .is(0, 0xABCD0000).holds(TO, 4, 0x2000).is(2, 0);
        goingOn("CMPC's", 0x2D).reg(0, 0xABCD0001).reg(1, DATA).reg(2, 0x00010001).reg(3, TO).run(1).is(0, 0xABCD0000).flags(4);
        goingOn("MATCHC's", 0x39).reg(0, 0xABCD0001).reg(1, DATA).reg(2, 0x00010003).reg(3, TO).run(1).is(0, 0xABCD0001).is(2, 2).is(3, TO + 1);
        goingOn("MATCHC's R4 is all of it", 0x39).reg(0, 1).reg(1, END - 0x10001).reg(2, 0x00010003).reg(3, TO).reg(4, 0x10001).run(1)
            .fault(CHECK, FPD, END);
        goingOn("CRC's R0 is all of it", 0x0B).reg(0, 0x12345678).reg(1, TABLE).reg(2, 0x00010001).reg(3, DATA).run(1).is(0, 0x00123456);
        goingOn("R4 tells the flags", 0x28).reg(4, 0x0D00).run(1).flags(13).is(4, 0);
        goingOn("no other bits of R4", 0x28).reg(4, 0xFFFFF2FF).run(1).flags(0);
        goingOn("fill is R4's low byte", 0x2C).reg(2, 0x00010001).reg(3, TO).reg(4, 0x1234).run(1).holds(TO, 2, 0x34).flags(0);
        goingOn("LOCC's byte is R2's low byte", 0x3A).reg(0, 1).reg(1, DATA).reg(2, 0x0001FF05).bytes(DATA, 5).run(1).flags(0);
        Trial t = Trial.of("an interrupt between", 0x3B, 0x00, Bench.w(150), Bench.at(DATA)).run(1).special(20, 1).run(1);
        t.pushed(132, CODE, FPD).state(7, 0);
        t = Trial.of("flags stay till the end", 0x3B, 0x00, Bench.w(150), Bench.at(DATA)).status(11).run(1).is(16, FPD | 11).run(1).flags(4);
    }

    public static void main(String[] args) {
        none();
        hundred();
        moves();
        comparisons();
        failing();
        oneBehindTheOther();
        goesOn();
        Bench.end("edges of strings");
    }
}
