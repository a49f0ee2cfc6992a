import java.math.BigInteger;

/** DECIMALS: 0 and 31 digits, every digit and sign, what is too long, strings at memory's end, tables, and EDITPC. */
public final class EdgesOfDecimals {
    private static final int CODE = Trial.CODE;
    private static final int DATA = Trial.DATA;
    private static final int SECOND = DATA + 0x40;
    private static final int THIRD = DATA + 0x80;
    private static final int TABLE = DATA + 0x100;
    private static final int END = Trial.END;
    private static final int RESERVED = 24;
    private static final int CHECK = 4;
    private static final BigInteger NINES = BigInteger.TEN.pow(31).subtract(BigInteger.ONE);

    /** A number's decimal of so many digits, with the sign that results have or the one that is told. */
    private static int[] packed(BigInteger value, int digits, int sign) {
        int[] out = new int[digits / 2 + 1];
        BigInteger rest = value.abs();
        for (int i = 0; i <= digits; i++) {
            int half = i == 0 ? sign : rest.mod(BigInteger.TEN).intValue();
            rest = i == 0 ? rest : rest.divide(BigInteger.TEN);
            int at = out.length - 1 - i / 2;
            out[at] |= half << i % 2 * 4;
        }
        return out;
    }

    private static int[] packed(BigInteger value, int digits) {
        return packed(value, digits, value.signum() < 0 ? 13 : 12);
    }

    private static BigInteger big(long value) {
        return BigInteger.valueOf(value);
    }

    private static Trial held(Trial t, int address, int[] want) {
        for (int i = 0; i < want.length; i++) {
            t.holds(address + i, 1, want[i]);
        }
        return t.holds(address - 1, 1, 0xEE).holds(address + want.length, 1, 0xEE);
    }

    private static Trial guard(Trial t, int address, int many) {
        return t.bytes(address - 1, Bench.repeated(0xEE, many + 2));
    }

    /** The low digits of a result, with its flags. */
    private static void result(Trial t, int address, BigInteger whole, int digits) {
        BigInteger low = whole.abs().mod(BigInteger.TEN.pow(digits));
        low = whole.signum() < 0 ? low.negate() : low;
        boolean v = !low.equals(whole);
        held(t, address, packed(low, digits));
        t.fine().flags((low.signum() < 0 ? 8 : 0) | (low.signum() == 0 ? 4 : 0) | (v ? 2 : 0));
    }

    private static void sums() {
        Bench.part("sums, products, quotients");
        BigInteger[] values = {big(0), big(1), big(-1), big(9), big(-10), big(99), NINES, NINES.negate(), BigInteger.TEN.pow(30),
            BigInteger.TEN.pow(30).negate(), new BigInteger("1234567890123456789012345678901")};
        int[] digits = {0, 1, 2, 30, 31};
        for (BigInteger a : values) {
            for (BigInteger b : values) {
                for (int n : digits) {
                    six(0x21, b.add(a), a, b, n);
                    six(0x23, b.subtract(a), a, b, n);
                    six(0x25, b.multiply(a), a, b, n);
                    if (a.signum() != 0) {
                        six(0x27, b.divide(a), a, b, n);
                    }
                }
                four(0x20, b.add(a), a, b);
                four(0x22, b.subtract(a), a, b);
            }
        }
    }

    private static void six(int opcode, BigInteger whole, BigInteger a, BigInteger b, int digits) {
        Trial t = Trial.of(Integer.toHexString(opcode) + " of " + a + " and " + b + " in " + digits, opcode, 0x1F, Bench.at(DATA), 0x1F,
            Bench.at(SECOND), digits, Bench.at(THIRD));
        guard(t, THIRD, digits / 2 + 1).bytes(DATA, packed(a, 31)).bytes(SECOND, packed(b, 31)).status(3);
        for (int n = 0; n < 6; n++) {
            t.reg(n, 99);
        }
        t.run(1);
        result(t, THIRD, whole, digits);
        t.is(0, 0).is(1, DATA).is(2, 0).is(3, SECOND).is(4, 0).is(5, THIRD);
    }

    private static void four(int opcode, BigInteger whole, BigInteger a, BigInteger b) {
        Trial t = Trial.of(Integer.toHexString(opcode) + " of " + a + " and " + b, opcode, 0x1F, Bench.at(DATA), 0x1F, Bench.at(SECOND));
        guard(t, SECOND, 16).bytes(DATA, packed(a, 31)).bytes(SECOND, packed(b, 31)).reg(5, 99).status(3).run(1);
        result(t, SECOND, whole, 31);
        t.is(0, 0).is(1, DATA).is(2, 0).is(3, SECOND).is(4, 0).is(5, 0);
    }

    private static void everyCount() {
        Bench.part("every count");
        for (int n = 0; n <= 31; n++) {
            BigInteger v = NINES.mod(BigInteger.TEN.pow(n));
            Trial t = Trial.of("MOVP " + n, 0x34, n, Bench.at(END - n / 2 - 1), Bench.at(THIRD)).bytes(END - n / 2 - 1, packed(v.negate(), n));
            guard(t, THIRD, n / 2 + 1).status(15).run(1);
            result(t, THIRD, v.negate(), n);
            t.is(1, END - n / 2 - 1).is(3, THIRD).is(5, 0);
            Trial.of("MOVP " + n + ", one byte is not there", 0x34, n, Bench.at(END - n / 2), Bench.at(THIRD)).run(1).fault(CHECK, 0, END);
            Trial.of("MOVP " + n + ", its place is not there", 0x34, n, Bench.at(DATA), Bench.at(END - n / 2)).bytes(DATA, packed(v, n))
                .reg(1, 77).run(1).fault(CHECK, 0, END).is(1, 77);
        }
        everyLongCount();
        int[][] counts = {code(0x20, 9, 0), code(0x20, 0, 9), code(0x37, 9, 0), code(0x37, 0, 9), code(0x08, 9, 0), code(0x08, 0, 9),
            code(0x09, 9, 0), code(0x09, 0, 9)};
        for (int[] head : counts) {
            for (int n : new int[] {31, 32, 33, 255, 256, 0x8000, 0xFFFF}) {
                int first = head[1] == 9 ? n : 0;
                int second = head[2] == 9 ? n : 0;
                Trial t = Trial.of(Integer.toHexString(head[0]) + " counts " + first + " " + second, head[0], Bench.w(first), Bench.at(DATA),
                    Bench.w(second), Bench.at(SECOND)).bytes(DATA, zeros(head[0] == 0x09, first)).bytes(SECOND, zeros(false, second)).run(1);
                if (n == 31) {
                    t.fine();
                } else {
                    t.fault(RESERVED, 0);
                }
            }
        }
    }

    /** Each instruction with each of its counts, which is the last one allowed, or one more. */
    private static void everyLongCount() {
        Object[][] forms = {{0x21, 0, "a", 1, "a", 2, "c"}, {0x23, 0, "a", 1, "a", 2, "c"}, {0x25, 0, "a", 1, "a", 2, "c"}, {0x27, 0, "b", 1, "a", 2, "c"},
            {0x22, 0, "a", 1, "a"}, {0x34, 0, "a", "c"}, {0x35, 0, "a", "a"}, {0x36, 0, "a", "r"}, {0xF9, "l", 0, "c"},
            {0xF8, "l", 0, "a", "l", 1, "c"}, {0x24, 0, "a", "t", 1, "c"}, {0x26, 0, "s", "t", 1, "c"}};
        for (Object[] form : forms) {
            for (int which = 0; which < 3; which++) {
                for (int n = 31; n <= 32; n++) {
                    int used = 0;
                    int[] code = {(Integer) form[0]};
                    for (int i = 1; i < form.length; i++) {
                        int[] part;
                        if (form[i] instanceof Integer k) {
                            part = Bench.w(k == which ? n : 31);
                            used = k == which ? 1 : used;
                        } else {
                            part = operand((String) form[i]);
                        }
                        code = Bench.code(code, part);
                    }
                    if (used == 1) {
                        Trial t = Trial.of(Integer.toHexString(code[0]) + " count " + which + " of " + n, code).bytes(DATA, packed(big(0), 31))
                            .bytes(SECOND, packed(big(1), 31)).bytes(TABLE, Bench.repeated(0x0C, 256)).bytes(THIRD, Bench.repeated(48, 32)).run(1);
                        if (n == 31) {
                            t.fine();
                        } else {
                            t.fault(RESERVED, 0);
                        }
                    }
                }
            }
        }
    }

    private static int[] operand(String kind) {
        switch (kind) {
            case "a": return Bench.at(DATA);
            case "b": return Bench.at(SECOND);
            case "c": case "s": return Bench.at(THIRD);
            case "t": return Bench.at(TABLE);
            case "r": return new int[] {0x57};
            default: return new int[] {0x01};
        }
    }

    /** Several on one computer: nothing of an earlier one stays in a later one. */
    private static void oneBehindTheOther() {
        Bench.part("one behind the other");
        int[] long31 = Bench.code(0x21, 0x1F, Bench.at(DATA), 0x1F, Bench.at(DATA), 0x1F, Bench.at(THIRD));
        Trial.of("ASHP to the left", Bench.code(long31, 0xF8, 0x02, 0x01, Bench.at(SECOND), 0x00, 0x03, Bench.at(TABLE))).bytes(DATA, packed(NINES, 31))
            .bytes(SECOND, 0x1C).run(2).flags(0).holds(TABLE, 2, 0x0C10);
        Trial.of("ASHP to the right", Bench.code(long31, 0xF8, Bench.b(-1), 0x01, Bench.at(SECOND), 0x00, 0x1F, Bench.at(TABLE))).bytes(DATA, packed(NINES, 31))
            .bytes(SECOND, 0x1C).run(2).flags(4).holds(TABLE, 8, 0);
        int[] shifted = Bench.code(0xF8, Bench.b(127), 0x1F, Bench.at(DATA), 0x00, 0x1F, Bench.at(THIRD));
        int[][] later = {Bench.code(0x34, 0x01, Bench.at(SECOND), Bench.at(TABLE)), Bench.code(0xF9, 0x01, 0x1F, Bench.at(TABLE)),
            Bench.code(0x20, 0x01, Bench.at(SECOND), 0x1F, Bench.at(TABLE)), Bench.code(0x25, 0x01, Bench.at(SECOND), 0x01, Bench.at(SECOND), 0x1F, Bench.at(TABLE)),
            Bench.code(0x27, 0x01, Bench.at(SECOND), 0x01, Bench.at(SECOND), 0x1F, Bench.at(TABLE)), Bench.code(0xF8, 0x00, 0x01, Bench.at(SECOND), 0x00, 0x1F, Bench.at(TABLE)),
            Bench.code(0x09, 0x01, Bench.at(SECOND + 2), 0x1F, Bench.at(TABLE)), Bench.code(0x26, 0x01, Bench.at(SECOND + 4), Bench.at(DATA), 0x1F, Bench.at(TABLE)),
            Bench.code(0x23, 0x01, Bench.at(SECOND + 1), 0x01, Bench.at(SECOND), 0x1F, Bench.at(TABLE))};
        for (int[] one : later) {
            for (int[] first : new int[][] {long31, shifted}) {
                int[] all = Bench.code(first, one);
                int digits = one[0] == 0x34 ? 1 : 31;
                Trial t = Trial.of("behind " + Integer.toHexString(first[0]) + ": " + Integer.toHexString(one[0]), all).bytes(DATA, packed(NINES, 31))
                    .bytes(SECOND, 0x1C, 0x0C, '+', '1', 0x14);
                guard(t, TABLE, digits / 2 + 1).bytes(TABLE, packed(big(0), digits)).bytes(DATA + 20, 0x1C).run(1).state(7, 1);
                t.run(1);
                held(t, TABLE, packed(big(1), digits)).state(7, 2).state(2, 0).flags(0);
            }
        }
        Trial.of("CMPP4 behind a long one", Bench.code(long31, 0x37, 0x01, Bench.at(SECOND), 0x01, Bench.at(SECOND + 1))).bytes(DATA, packed(NINES, 31))
            .bytes(SECOND, 0x1C, 0x2C).run(2).flags(8).is(0, 0).is(1, SECOND).is(2, 0).is(3, SECOND + 1).is(4, 0).is(5, 0).state(7, 2);
        Trial.of("CVTPL behind a long one", Bench.code(long31, 0x36, 0x01, Bench.at(SECOND), 0x57)).bytes(DATA, packed(NINES, 31))
            .bytes(SECOND, 0x1C).run(2).flags(0).is(7, 1).is(1, SECOND).is(3, 0).is(5, 0);
        Trial.of("CVTSP behind a long one: registers", Bench.code(long31, 0x09, 0x01, Bench.at(SECOND), 0x01, Bench.at(TABLE))).bytes(DATA, packed(NINES, 31))
            .bytes(SECOND, '-', '1').run(2).flags(8).is(0, 0).is(1, SECOND).is(2, 0).is(3, TABLE).is(4, 0).is(5, 0);
        Trial.of("CMPP3 behind a long one", Bench.code(long31, 0x35, 0x01, Bench.at(SECOND), Bench.at(SECOND + 1))).bytes(DATA, packed(NINES, 31))
            .bytes(SECOND, 0x1C, 0x1F).run(2).flags(4).is(1, SECOND).is(3, SECOND + 1).is(5, 0);
        Trial.of("CVTPS behind a long one", Bench.code(long31, 0x08, 0x01, Bench.at(SECOND), 0x03, Bench.at(TABLE))).bytes(DATA, packed(NINES, 31))
            .bytes(SECOND, 0x1C).run(2).flags(0).holds(TABLE, 4, '+' | '0' << 8 | '0' << 16 | (long) '1' << 24).is(5, 0);
        Trial.of("EDITPC behind a long one", Bench.code(long31, 0x38, 0x01, Bench.at(SECOND), Bench.at(SECOND + 1), Bench.at(TABLE)))
            .bytes(DATA, packed(NINES, 31)).bytes(SECOND, 0x0C, 0x91, 0).run(2).flags(4).holds(TABLE, 2, ' ');
        for (int[] first : new int[][] {long31, shifted}) {
            Trial.of("CVTTP of none behind a long one", Bench.code(first, 0x26, 0x00, Bench.at(END), Bench.at(END), 0x1F, Bench.at(TABLE)))
                .bytes(DATA, packed(NINES, 31)).run(2).flags(4).holds(TABLE, 8, 0).holds(TABLE + 8, 8, 0x0C00000000000000L);
        }
        Trial.of("CMPP4 writes nothing", Bench.code(long31, 0x37, 0x01, Bench.at(SECOND), 0x01, Bench.at(SECOND))).bytes(DATA, packed(NINES, 31))
            .bytes(SECOND, 0x1C).run(1).bytes(THIRD, 0xEE).run(1).state(7, 2).holds(THIRD, 1, 0xEE);
        Trial.of("CVTPL writes nothing", Bench.code(long31, 0x36, 0x01, Bench.at(SECOND), 0x57)).bytes(DATA, packed(NINES, 31))
            .bytes(SECOND, 0x1C).run(1).bytes(THIRD, 0xEE).run(1).state(7, 2).holds(THIRD, 1, 0xEE);
        Trial.of("CVTPT of none writes nothing", Bench.code(long31, 0x24, 0x01, Bench.at(SECOND), Bench.at(TABLE), 0x00, Bench.at(SECOND)))
            .bytes(DATA, packed(NINES, 31)).bytes(SECOND, 0x1C).run(1).bytes(THIRD, 0xEE).run(1).state(7, 2).holds(THIRD, 1, 0xEE).holds(SECOND, 1, 0x1C);
        int[] edited = Bench.code(0x38, 0x01, Bench.at(SECOND), Bench.at(SECOND + 1), Bench.at(THIRD));
        Trial.of("EDITPC behind EDITPC", Bench.code(edited, 0x38, 0x01, Bench.at(SECOND + 8), Bench.at(SECOND + 9), Bench.at(TABLE)))
            .bytes(SECOND, 0x1D, 0x04, '*', 0x91, 0x03).bytes(SECOND + 8, 0x0C, 0x03, 0x91).run(2).state(7, 2).flags(4).holds(TABLE, 4, ' ' << 8 | ' ')
            .is(5, TABLE + 2);
        Trial.of("by 0 behind a result", Bench.code(long31, 0x27, 0x01, Bench.at(SECOND), 0x01, Bench.at(SECOND), 0x01, Bench.at(TABLE)))
            .bytes(DATA, packed(NINES, 31)).bytes(SECOND, 0x0C).run(2).state(7, 2).state(3, 52).holds(TABLE, 1, 0);
    }

    private static int[] code(int... row) {
        return row;
    }

    /** A 0 of no digits or of 31, as a decimal or as characters. */
    private static int[] zeros(boolean characters, int digits) {
        int[] out = Bench.repeated(characters ? 48 : 0, 32);
        out[characters || digits == 0 ? 0 : 15] = characters ? 43 : 0x0C;
        return out;
    }

    private static void digitsAndSigns() {
        Bench.part("digits and signs");
        for (int last = 0; last < 256; last++) {
            boolean fits = last >> 4 < 10 && (last & 15) > 9;
            boolean minus = ((last & 15) == 11 || (last & 15) == 13) && last >> 4 != 0;
            Trial t = Trial.of("last byte " + Integer.toHexString(last), 0x34, 0x01, Bench.at(DATA), Bench.at(THIRD)).bytes(DATA, last).run(1);
            if (fits) {
                t.fine().holds(THIRD, 1, last & 0xF0 | (minus ? 13 : 12)).flags((minus ? 8 : 0) | (last >> 4 == 0 ? 4 : 0));
            } else {
                t.fault(RESERVED, 0).holds(THIRD, 1, 0);
            }
            Trial first = Trial.of("first byte " + Integer.toHexString(last), 0x34, 0x03, Bench.at(DATA), Bench.at(THIRD)).bytes(DATA, last, 0x1C)
                .run(1);
            if ((last & 15) < 10 && last >> 4 < 10) {
                first.fine().holds(THIRD, 2, 0x1C00 | last);
            } else {
                first.fault(RESERVED, 0);
            }
            Trial even = Trial.of("first byte, two digits " + Integer.toHexString(last), 0x34, 0x02, Bench.at(DATA), Bench.at(THIRD))
                .bytes(DATA, last, 0x1C).run(1);
            if ((last & 15) < 10) {
                even.fine().holds(THIRD, 2, 0x1C00 | last & 15);
            } else {
                even.fault(RESERVED, 0);
            }
            Trial none = Trial.of("no digits " + Integer.toHexString(last), 0x34, 0x00, Bench.at(DATA), Bench.at(THIRD)).bytes(DATA, last).run(1);
            if ((last & 15) > 9) {
                none.fine().holds(THIRD, 2, 0x0C).flags(4);
            } else {
                none.fault(RESERVED, 0);
            }
        }
        Trial.of("a 0 with any sign is like", 0x35, 0x01, Bench.at(DATA), Bench.at(SECOND)).bytes(DATA, 0x0D).bytes(SECOND, 0x0C).status(11).run(1)
            .fine().flags(4).is(1, DATA).is(3, SECOND);
        Trial.of("and above what is below", 0x35, 0x01, Bench.at(DATA), Bench.at(SECOND)).bytes(DATA, 0x0D).bytes(SECOND, 0x1D).run(1).flags(0);
        Trial.of("of other counts", 0x37, 0x00, Bench.at(DATA), 0x1F, Bench.at(SECOND)).bytes(DATA, 0x0B).bytes(SECOND, packed(big(0), 31)).run(1)
            .flags(4);
        int[][] orders = {{1, 2, 8}, {2, 1, 0}, {-1, 1, 8}, {1, -1, 0}, {-2, -1, 8}, {-1, -2, 0}, {-1, -1, 4}, {0, 1, 8}, {0, -1, 0}};
        for (int[] o : orders) {
            Trial.of("CMPP4 " + o[0] + " " + o[1], 0x37, 0x03, Bench.at(DATA), 0x05, Bench.at(SECOND)).bytes(DATA, packed(big(o[0]), 3))
                .bytes(SECOND, packed(big(o[1]), 5)).status(3).run(1).fine().flags(o[2]);
        }
    }

    private static void lookedAtInOrder() {
        Bench.part("in the order of the operands");
        Trial.of("a count ahead of its string", 0x20, 0x20, Bench.at(END), 0x01, Bench.at(SECOND)).run(1).fault(RESERVED, 0);
        Trial.of("the first string ahead of the second count", 0x20, 0x01, Bench.at(END), 0x20, Bench.at(SECOND)).run(1).fault(CHECK, 0, END);
        Trial.of("its digits, too", 0x20, 0x01, Bench.at(DATA), 0x01, Bench.at(END)).bytes(DATA, 0xAC).run(1).fault(RESERVED, 0);
        Trial.of("the second string ahead of the third count", 0x21, 0x01, Bench.at(DATA), 0x01, Bench.at(END), 0x20, Bench.at(THIRD))
            .bytes(DATA, 0x1C).run(1).fault(CHECK, 0, END);
        Trial.of("the third count ahead of division by 0", 0x27, 0x01, Bench.at(DATA), 0x01, Bench.at(SECOND), 0x20, Bench.at(THIRD))
            .bytes(DATA, 0x0C).bytes(SECOND, 0x1C).run(1).fault(RESERVED, 0);
        Trial.of("a fault leaves the registers", 0x20, 0x01, Bench.at(DATA), 0x01, Bench.at(SECOND)).bytes(DATA, 0x1C).bytes(SECOND, 0x11).reg(1, 5)
            .reg(0, 6).status(15).run(1).fault(RESERVED, 15).is(1, 5).is(0, 6);
        for (int sign = 10; sign < 16; sign++) {
            Trial.of("by 0", 0x27, 0x01, Bench.at(DATA), 0x01, Bench.at(SECOND), 0x01, Bench.at(END)).bytes(DATA, sign).bytes(SECOND, 0x1C)
                .status(0x2D).run(1).trap(4, CODE + 19, 0x2F).is(0, 0).is(1, DATA).is(3, SECOND).is(5, END);
        }
        Trial.of("too long, with DV", 0x21, 0x01, Bench.at(DATA), 0x01, Bench.at(SECOND), 0x01, Bench.at(THIRD)).bytes(DATA, 0x9D)
            .bytes(SECOND, 0x9D).status(0x80).run(1).trap(6, CODE + 19, 0x8A).holds(THIRD, 1, 0x8D);
        Trial.of("what is 0 then is not below 0", 0x21, 0x01, Bench.at(DATA), 0x01, Bench.at(SECOND), 0x00, Bench.at(THIRD)).bytes(DATA, 0x9D)
            .bytes(SECOND, 0x9D).run(1).fine().flags(6).holds(THIRD, 1, 0x0C);
    }

    private static void binary() {
        Bench.part("CVTLP and CVTPL");
        for (int v : new int[] {0, 1, -1, 9, 10, -10, Integer.MAX_VALUE, Integer.MIN_VALUE}) {
            for (int n : new int[] {0, 1, 2, 9, 10, 31}) {
                Trial t = Trial.of("CVTLP " + v + " in " + n, 0xF9, Bench.l(v), n, Bench.at(THIRD));
                guard(t, THIRD, n / 2 + 1).status(3).run(1);
                result(t, THIRD, big(v), n);
                t.is(1, THIRD).is(0, 0).is(3, 0).is(5, 0);
            }
        }
        BigInteger[] values = {big(0), big(-1), big(Integer.MAX_VALUE), big(Integer.MAX_VALUE + 1L), big(Integer.MIN_VALUE),
            big(Integer.MIN_VALUE - 1L), big(1L << 32), big(-(1L << 32)), NINES, NINES.negate(), big(1L << 40), BigInteger.ONE.shiftLeft(96)};
        for (BigInteger v : values) {
            boolean over = v.bitLength() > 31;
            int low = v.intValue();
            int flags = (low < 0 ? 8 : 0) | (low == 0 ? 4 : 0) | (over ? 2 : 0);
            Trial.of("CVTPL " + v, 0x36, 0x1F, Bench.at(DATA), 0x52).bytes(DATA, packed(v, 31)).status(3).run(1).fine().is(2, low).flags(flags)
                .is(1, DATA).is(0, 0).is(3, 0);
            Trial t = Trial.of("CVTPL with IV " + v, 0x36, 0x1F, Bench.at(DATA), 0x51).bytes(DATA, packed(v, 31)).status(0x20).run(1).is(1, low);
            if (over) {
                t.trap(1, CODE + 8, 0x20 | flags);
            } else {
                t.fine();
            }
        }
    }

    private static void shifts() {
        Bench.part("ASHP");
        BigInteger[] values = {big(0), big(5), big(-4), big(12345), big(-99999), NINES, NINES.negate(), BigInteger.TEN.pow(30)};
        for (BigInteger v : values) {
            for (int by : new int[] {0, 1, 2, 30, 31, 32, 63, 64, 127, -1, -2, -4, -5, -30, -31, -32, -63, -64, -65, -128}) {
                for (int round : new int[] {0, 4, 5, 9}) {
                    shifted(v, by, round, 31);
                    shifted(v, by, round, 4);
                }
            }
        }
        for (int v = 75; v <= 105; v++) {
            shifted(big(v), -1, 5, 3);
            shifted(big(-v), -1, 9, 1);
        }
        for (int round : new int[] {10, 15, 16, 127, 128, 255}) {
            Trial.of("round " + round, 0xF8, Bench.b(-1), 0x01, Bench.at(DATA), Bench.b(round), 0x01, Bench.at(THIRD)).bytes(DATA, 0x1C).run(1)
                .fault(RESERVED, 0);
        }
    }

    private static void shifted(BigInteger v, int by, int round, int digits) {
        BigInteger size = v.abs();
        if (by >= 0) {
            size = size.multiply(BigInteger.TEN.pow(by));
        } else {
            BigInteger rest = size.divide(BigInteger.TEN.pow(-by - 1));
            size = rest.divide(BigInteger.TEN);
            if (rest.mod(BigInteger.TEN).intValue() + round > 9) {
                size = size.add(BigInteger.ONE);
            }
        }
        Trial t = Trial.of("ASHP " + v + " by " + by + " round " + round, 0xF8, Bench.b(by), 0x1F, Bench.at(DATA), round, digits, Bench.at(THIRD));
        guard(t, THIRD, digits / 2 + 1).bytes(DATA, packed(v, 31)).status(3).run(1);
        result(t, THIRD, v.signum() < 0 ? size.negate() : size, digits);
        t.is(1, DATA).is(3, THIRD).is(5, 0);
    }

    private static void characters() {
        Bench.part("CVTPS and CVTSP");
        BigInteger[] values = {big(0), big(7), big(-7), big(-120), NINES, NINES.negate()};
        for (BigInteger v : values) {
            for (int n : new int[] {0, 1, 3, 30, 31}) {
                BigInteger low = v.abs().mod(BigInteger.TEN.pow(n));
                boolean minus = v.signum() < 0 && low.signum() != 0;
                String digits = n == 0 ? "" : String.format("%0" + n + "d", low);
                Trial t = Trial.of("CVTPS " + v + " in " + n, 0x08, 0x1F, Bench.at(DATA), n, Bench.at(THIRD));
                guard(t, THIRD, n + 1).bytes(DATA, packed(v, 31)).status(3).run(1);
                held(t, THIRD, Bench.text((minus ? "-" : "+") + digits)).fine().is(1, DATA).is(3, THIRD)
                    .flags((minus ? 8 : 0) | (low.signum() == 0 ? 4 : 0) | (low.equals(v.abs()) ? 0 : 2));
                Trial back = Trial.of("CVTSP " + v + " in " + n, 0x09, 0x1F, Bench.at(DATA), n, Bench.at(THIRD));
                guard(back, THIRD, n / 2 + 1).bytes(DATA, Bench.text((v.signum() < 0 ? "-" : " ") + String.format("%031d", v.abs()))).run(1);
                result(back, THIRD, v, n);
            }
        }
        for (int c = 0; c < 256; c++) {
            Trial sign = Trial.of("CVTSP sign " + c, 0x09, 0x01, Bench.at(DATA), 0x01, Bench.at(THIRD)).bytes(DATA, c, '5').run(1);
            if (c == '+' || c == '-' || c == ' ') {
                sign.fine().holds(THIRD, 1, c == '-' ? 0x5D : 0x5C);
            } else {
                sign.fault(RESERVED, 0);
            }
            Trial digit = Trial.of("CVTSP digit " + c, 0x09, 0x01, Bench.at(DATA), 0x01, Bench.at(THIRD)).bytes(DATA, '+', c).run(1);
            if (c >= '0' && c <= '9') {
                digit.fine().holds(THIRD, 1, c - '0' << 4 | 12);
            } else {
                digit.fault(RESERVED, 0);
            }
        }
        Trial.of("CVTSP of no digits reads the sign", 0x09, 0x00, Bench.at(DATA), 0x00, Bench.at(THIRD)).bytes(DATA, '*').run(1).fault(RESERVED, 0);
        Trial.of("CVTSP of no digits", 0x09, 0x00, Bench.at(DATA), 0x01, Bench.at(THIRD)).bytes(DATA, '-', '*').run(1).fine().holds(THIRD, 1, 0x0C);
        Trial.of("CVTSP's string ahead of its second count", 0x09, 0x03, Bench.at(END - 3), 0x20, Bench.at(THIRD)).run(1).fault(CHECK, 0, END);
        Trial.of("CVTPS's string ahead of its second count", 0x08, 0x03, Bench.at(END - 1), 0x20, Bench.at(THIRD)).run(1).fault(CHECK, 0, END);
        Trial.of("CVTSP at the end", 0x09, 0x03, Bench.at(END - 4), 0x03, Bench.at(THIRD)).bytes(END - 4, Bench.text("+123")).run(1).fine();
        Trial.of("CVTSP behind it", 0x09, 0x03, Bench.at(END - 3), 0x03, Bench.at(THIRD)).run(1).fault(CHECK, 0, END);
        Trial.of("CVTPS at the end", 0x08, 0x01, Bench.at(DATA), 0x03, Bench.at(END - 4)).bytes(DATA, 0x1C).run(1).fine();
        Trial.of("CVTPS behind it", 0x08, 0x01, Bench.at(DATA), 0x03, Bench.at(END - 3)).bytes(DATA, 0x1C).run(1).fault(CHECK, 0, END)
            .holds(END - 4, 4, 0);
    }

    private static void tables() {
        Bench.part("CVTPT and CVTTP");
        Trial.of("the table at the last byte as it is", 0x24, 0x03, Bench.at(DATA), Bench.at(TABLE), 0x03, Bench.at(THIRD)).bytes(DATA, 0x12, 0x3F)
            .bytes(TABLE + 0x3F, 'x').status(3).run(1).fine().flags(0).holds(THIRD, 4, 'x' << 16 | '2' << 8 | '1').is(1, DATA).is(3, THIRD).is(5, 0);
        Trial.of("cut: the last byte is as it is", 0x24, 0x03, Bench.at(DATA), Bench.at(TABLE), 0x01, Bench.at(THIRD)).bytes(DATA, 0x12, 0x3D)
            .bytes(TABLE + 0x3D, 'y').run(1).fine().flags(10).holds(THIRD, 2, 'y');
        Trial.of("0 below 0", 0x24, 0x01, Bench.at(DATA), Bench.at(TABLE), 0x02, Bench.at(THIRD)).bytes(DATA, 0x0D).bytes(TABLE + 0x0D, 'z').run(1)
            .fine().flags(4).holds(THIRD, 4, 'z' << 8 | '0');
        Trial.of("no characters: no table, nothing is written", 0x24, 0x01, Bench.at(DATA), Bench.at(END), 0x00, Bench.at(END)).bytes(DATA, 0x5D)
            .run(1).fine().flags(6).is(1, DATA).is(3, END);
        Trial.of("no characters of a 0", 0x24, 0x00, Bench.at(DATA), Bench.at(END), 0x00, Bench.at(END)).bytes(DATA, 0x0D).run(1).fine().flags(4);
        Trial.of("no characters, with DV", 0x24, 0x01, Bench.at(DATA), Bench.at(END), 0x00, Bench.at(END)).bytes(DATA, 0x5D).status(0x80).run(1)
            .trap(6, CODE + 18, 0x86);
        Trial.of("the table behind the second count", 0x24, 0x01, Bench.at(DATA), Bench.at(END), 0x20, Bench.at(THIRD)).bytes(DATA, 0x5D).run(1)
            .fault(RESERVED, 0);
        Trial.of("the table's byte is not there", 0x24, 0x01, Bench.at(DATA), Bench.at(END - 0x5D), 0x01, Bench.at(THIRD)).bytes(DATA, 0x5D).run(1)
            .fault(CHECK, 0, END).holds(THIRD, 1, 0);
        Trial.of("the table's byte is 0", 0x24, 0x01, Bench.at(DATA), Bench.at(TABLE), 0x01, Bench.at(THIRD)).bytes(DATA, 0x5D).bytes(THIRD, 0xEE).run(1)
            .fine().holds(THIRD, 1, 0).flags(8);
        Trial.of("the table's last byte is", 0x24, 0x01, Bench.at(DATA), Bench.at(END - 0x5E), 0x01, Bench.at(THIRD)).bytes(DATA, 0x5D).run(1).fine();
        Trial.of("back", 0x26, 0x03, Bench.at(DATA), Bench.at(TABLE), 0x03, Bench.at(THIRD)).bytes(DATA, Bench.text("12x")).bytes(TABLE + 'x', 0x3B)
            .reg(0, 9).reg(2, 9).reg(4, 9).reg(5, 9).status(3).run(1).fine().flags(8).holds(THIRD, 4, 0x3D12).is(0, 0).is(1, DATA).is(2, 0).is(3, THIRD)
            .is(4, 0).is(5, 0);
        Trial.of("back: one character", 0x26, 0x01, Bench.at(DATA), Bench.at(TABLE), 0x01, Bench.at(THIRD)).bytes(DATA, 0xFF).bytes(TABLE + 255, 0x9A)
            .run(1).fine().holds(THIRD, 1, 0x9C);
        Trial.of("back: no characters, no table", 0x26, 0x00, Bench.at(END), Bench.at(END), 0x03, Bench.at(THIRD)).run(1).fine().flags(4)
            .holds(THIRD, 2, 0x0C00);
        Trial.of("back: too long", 0x26, 0x02, Bench.at(DATA), Bench.at(TABLE), 0x01, Bench.at(THIRD)).bytes(DATA, '7', 'x').bytes(TABLE + 'x', 0x3D)
            .run(1).fine().flags(10).holds(THIRD, 1, 0x3D);
        for (int c : new int[] {'/', ':', ' ', 0, 255}) {
            Trial.of("back: no digit " + c, 0x26, 0x02, Bench.at(DATA), Bench.at(TABLE), 0x02, Bench.at(THIRD)).bytes(DATA, c, 'x')
                .bytes(TABLE + 'x', 0x3C).run(1).fault(RESERVED, 0);
        }
        for (int last = 0; last < 256; last += 1) {
            Trial t = Trial.of("back: the table's byte " + last, 0x26, 0x01, Bench.at(DATA), Bench.at(TABLE), 0x01, Bench.at(THIRD)).bytes(DATA, 'x')
                .bytes(TABLE + 'x', last).run(1);
            if (last >> 4 < 10 && (last & 15) > 9) {
                t.fine();
            } else {
                t.fault(RESERVED, 0);
            }
        }
        Trial.of("back: the table ahead of the digits", 0x26, 0x02, Bench.at(DATA), Bench.at(END), 0x02, Bench.at(THIRD)).bytes(DATA, '*', 5).run(1)
            .fault(CHECK, 0, END + 5);
        Trial.of("back: the digits ahead of the second count", 0x26, 0x02, Bench.at(END), Bench.at(END), 0x20, Bench.at(THIRD)).run(1)
            .fault(CHECK, 0, END);
    }

    private static Trial edit(String what, int digits, int[] decimal, int... pattern) {
        return Trial.of(what, 0x38, digits, Bench.at(DATA), Bench.at(TABLE), Bench.at(THIRD)).bytes(DATA, decimal).bytes(TABLE, pattern);
    }

    private static void editing() {
        Bench.part("EDITPC");
        for (int b = 0; b < 256; b++) {
            Trial t = edit("byte " + b + " without digits", 0, code(0x0C), b, 0, 0).run(1);
            if (b <= 8 || b > 0x80 && b < 0x90) {
                t.fine();
            } else {
                t.fault(RESERVED, 0);
            }
            Trial one = edit("byte " + b + " with a digit", 1, code(0x5C), b, 0, 0).run(1);
            if (b == 0x91 || b == 0xA1) {
                one.fine();
            } else {
                one.fault(RESERVED, 0);
            }
        }
        edit("all 31 digits", 31, packed(NINES, 31), 0x9F, 0x9F, 0x91, 0).status(2).run(1).fine().flags(1).is(5, THIRD + 31).holds(THIRD, 1, '9')
            .holds(THIRD + 30, 2, '9');
        edit("one digit is not taken", 31, packed(NINES, 31), 0x9F, 0x9F, 0).run(1).fault(RESERVED, 0).holds(THIRD, 1, 0);
        edit("one digit is not there", 31, packed(NINES, 31), 0x9F, 0x9F, 0x92, 0).run(1).fault(RESERVED, 0);
        edit("8 with as many as were written", 1, code(0x0C), 0x04, '*', 0x02, 0x91, 0x08, 1, 0).run(1).fine().holds(THIRD, 2, '*').flags(5);
        edit("8 with one more", 1, code(0x0C), 0x04, '*', 0x02, 0x91, 0x08, 2, 0).run(1).fault(RESERVED, 0);
        edit("8 with none", 1, code(0x0C), 0x02, 0x91, 0x08, 0, 0).run(1).fine().holds(THIRD, 2, '0');
        edit("8 of what is not 0", 1, code(0x1C), 0x04, '*', 0x91, 0x08, 1, 0).run(1).fine().holds(THIRD, 2, '1').flags(1);
        edit("the sign, above 0", 1, code(0x1C), 0x03, 0x91, 0).run(1).fine().holds(THIRD, 2, '1' << 8 | ' ');
        edit("the sign, below 0", 1, code(0x1D), 0x03, 0x91, 0).run(1).fine().holds(THIRD, 2, '1' << 8 | '-').flags(9);
        edit("the sign of a 0", 1, code(0x0D), 0x06, 'm', 0x05, 'p', 0x03, 0x91, 0).run(1).fine().holds(THIRD, 2, ' ' << 8 | 'p').flags(4);
        edit("6 below 0", 1, code(0x1D), 0x06, 'm', 0x05, 'p', 0x03, 0x91, 0).run(1).fine().holds(THIRD, 2, '1' << 8 | 'm').flags(9);
        edit("6 above 0", 1, code(0x1C), 0x06, 'm', 0x05, 'p', 0x03, 0x91, 0).run(1).fine().holds(THIRD, 2, '1' << 8 | 'p').flags(1);
        edit("7 without significance", 1, code(0x1C), 0x07, ',', 0x91, 0x07, '.', 0).run(1).fine().holds(THIRD, 4, '.' << 16 | '1' << 8 | ' ');
        edit("1 ends significance", 2, code(0x01, 0x0C), 0x92, 0x01, 0x07, ',', 0).run(1).fine().holds(THIRD, 4, ' ' << 16 | '0' << 8 | '1').flags(0);
        edit("floating, from the first", 1, code(0x1D), 0xA1, 0).run(1).fine().holds(THIRD, 4, '1' << 8 | '-');
        edit("floating, 15 digits", 15, packed(big(123456789012345L), 15), 0xAF, 0).run(1).fine().is(5, THIRD + 16).holds(THIRD, 2, '1' << 8 | ' ')
            .holds(THIRD + 15, 2, '5');
        edit("floating, 1 to 15 digits", 15, packed(big(0), 15), 0xAF, 0).run(1).fine().is(5, THIRD + 15);
        edit("floating, all 0", 2, code(0x00, 0x0C), 0xA2, 0).run(1).fine().holds(THIRD, 4, ' ' << 8 | ' ').flags(4);
        edit("fill in floating", 3, code(0x00, 0x5C), 0x04, '*', 0xA3, 0).run(1).fine().holds(THIRD, 4, (long) '5' << 24 | ' ' << 16 | '*' << 8 | '*');
        edit("no byte of the pattern", 0, code(0x0C), 0).run(1).fine().is(5, THIRD).is(3, TABLE).is(1, DATA).is(0, 0).is(2, 0).is(4, 0);
        edit("a decimal that is none", 1, code(0xAC), 0x91, 0).run(1).fault(RESERVED, 0);
        Trial.of("a pattern that ends with memory", 0x38, 0x00, Bench.at(DATA), Bench.at(END - 1), Bench.at(THIRD)).bytes(DATA, 0x0C).run(1).fine();
        Trial.of("a pattern that does not", 0x38, 0x00, Bench.at(DATA), Bench.at(END - 1), Bench.at(THIRD)).bytes(DATA, 0x0C).bytes(END - 1, 1).run(1)
            .fault(CHECK, 0, END);
        Trial.of("a byte behind 4 that is not there", 0x38, 0x00, Bench.at(DATA), Bench.at(END - 1), Bench.at(THIRD)).bytes(DATA, 0x0C)
            .bytes(END - 1, 4).run(1).fault(CHECK, 0, END);
        Trial.of("a byte behind 9 is not read", 0x38, 0x00, Bench.at(DATA), Bench.at(END - 1), Bench.at(THIRD)).bytes(DATA, 0x0C).bytes(END - 1, 9).run(1)
            .fault(RESERVED, 0);
        Trial.of("nor one behind the 200th", 0x38, 0x00, Bench.at(DATA), Bench.at(END - 200), Bench.at(THIRD)).bytes(DATA, 0x0C)
            .bytes(END - 200, Bench.repeated(1, 200)).bytes(END - 1, 4).run(1).fault(RESERVED, 0);
        Trial.of("a place that is not there", 0x38, 0x01, Bench.at(DATA), Bench.at(TABLE), Bench.at(END)).bytes(DATA, 0x1C).bytes(TABLE, 0x91).run(1)
            .fault(CHECK, 0, END);
        Trial.of("nothing written to it", 0x38, 0x00, Bench.at(DATA), Bench.at(TABLE), Bench.at(END)).bytes(DATA, 0x0C).run(1).fine().is(5, END);
        edit("200 characters", 0, code(0x0C), Bench.code(Bench.repeated(0x8F, 13), 0x85, 0)).run(1).fine().is(5, THIRD + 200);
        edit("201 characters", 0, code(0x0C), Bench.code(Bench.repeated(0x8F, 13), 0x86, 0)).run(1).fault(RESERVED, 0).holds(THIRD, 1, 0);
        edit("199 bytes that tell and a 0", 0, code(0x0C), Bench.code(Bench.repeated(1, 199), 0)).run(1).fine();
        edit("200 bytes that tell", 0, code(0x0C), Bench.code(Bench.repeated(1, 200), 0)).run(1).fault(RESERVED, 0);
        int[] pairs = new int[399];
        for (int i = 0; i < 199; i++) {
            pairs[2 * i] = 4;
            pairs[2 * i + 1] = '*';
        }
        edit("those behind 4 do not tell", 0, code(0x0C), pairs).run(1).fine();
    }

    public static void main(String[] args) {
        sums();
        everyCount();
        oneBehindTheOther();
        digitsAndSigns();
        lookedAtInOrder();
        binary();
        shifts();
        characters();
        tables();
        editing();
        Bench.end("edges of decimals");
    }
}
