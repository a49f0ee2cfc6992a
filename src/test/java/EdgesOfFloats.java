import java.math.BigInteger;

/** FLOATS: both ends of the exponent, halves that are rounded, what does not fit, and what is reserved. */
public final class EdgesOfFloats {
    private static final int CODE = Trial.CODE;
    private static final int DATA = Trial.DATA;
    private static final int RESERVED = 24;
    private static final int ARITHMETIC = 52;
    private static final int FU = 0x40;

    /** A number: 0, or with a sign a whole number times a power of 2; how it is written with so many bits. */
    private record Number(int sign, BigInteger size, int power) {
        static final Number NONE = new Number(0, BigInteger.ZERO, 0);

        static Number of(boolean wide, int sign, int e, long fraction) {
            int bits = wide ? 56 : 24;
            return new Number(sign, BigInteger.ONE.shiftLeft(bits - 1).or(BigInteger.valueOf(fraction)), e - 128 - bits);
        }

        static Number whole(long value) {
            return new Number(value < 0 ? 1 : 0, BigInteger.valueOf(value).abs(), 0);
        }

        BigInteger signed() {
            return sign == 1 ? size.negate() : size;
        }

        Number minus() {
            return new Number(1 - sign, size, power);
        }
    }

    /** Bits of a number whose fraction and exponent are known to fit. */
    private static long bits(boolean wide, int sign, int e, long fraction) {
        long head = (long) sign << 15 | (long) e << 7;
        if (!wide) {
            return head | fraction >> 16 | (fraction & 0xFFFF) << 16;
        }
        return head | fraction >> 48 | (fraction >> 32 & 0xFFFF) << 16 | (fraction >> 16 & 0xFFFF) << 32 | (fraction & 0xFFFF) << 48;
    }

    /** A quotient of sizes times a power of 2, rounded halves away from 0: its exponent and fraction; of 0 none. */
    private static long[] rounded(boolean wide, BigInteger size, BigInteger by, int power) {
        int bits = wide ? 56 : 24;
        int up = bits + by.bitLength() - size.bitLength() + 1;
        BigInteger a = up > 0 ? size.shiftLeft(up) : size;
        BigInteger b = up > 0 ? by : by.shiftLeft(-up);
        BigInteger q = a.divide(b);
        while (q.bitLength() > bits) {
            b = b.shiftLeft(1);
            up--;
            q = a.divide(b);
        }
        if (a.subtract(q.multiply(b)).shiftLeft(1).compareTo(b) >= 0) {
            q = q.add(BigInteger.ONE);
        }
        if (q.bitLength() > bits) {
            q = q.shiftRight(1);
            up--;
        }
        return new long[] {power - up + bits + 128, q.clearBit(bits - 1).longValue()};
    }

    private static int[] immediate(boolean wide, long bits) {
        return Bench.code(0x8F, Bench.spread(bits, wide ? 8 : 4));
    }

    private static String name(int opcode, long a, long b) {
        return Integer.toHexString(opcode) + " of " + Long.toHexString(a) + " and " + Long.toHexString(b);
    }

    /** What is due of a result: what is stored with its flags, or a fault. */
    private static void result(String what, boolean wide, int[] code, int sign, BigInteger size, BigInteger by, int power, int carry) {
        long[] r = size.signum() == 0 ? new long[] {0, 0} : rounded(wide, size, by, power);
        for (int fu = 0; fu <= FU; fu += FU) {
            Trial t = Trial.of(what, code).longs(DATA, -1, -1).status(fu | 3).run(1);
            if (size.signum() != 0 && r[0] > 255) {
                t.fault(ARITHMETIC, fu | 3, 8).holds(DATA, 8, -1);
            } else if (size.signum() != 0 && r[0] < 1 && fu != 0) {
                t.fault(ARITHMETIC, fu | 3, 10).holds(DATA, 8, -1);
            } else {
                boolean zero = size.signum() == 0 || r[0] < 1;
                long want = zero ? 0 : bits(wide, sign, (int) r[0], r[1]);
                t.fine().holds(DATA, 8, wide ? want : want | -1L << 32).flags((zero ? 4 : sign * 8) | carry);
            }
        }
    }

    private static void pairs() {
        Bench.part("sums, products, quotients");
        for (int width = 0; width < 2; width++) {
            boolean wide = width == 1;
            long ones = (1L << (wide ? 55 : 23)) - 1;
            int[] exponents = {1, 2, 127, 128, 129, 152, 184, 254, 255};
            long[] fractions = {0, 1, ones, 0x2B5A5A5A5A5A5AL & ones, 0x5353579BDF0246L & ones};
            int many = 1 + 2 * exponents.length * fractions.length;
            long[] bits = new long[many];
            Number[] numbers = new Number[many];
            numbers[0] = Number.NONE;
            int n = 1;
            for (int e : exponents) {
                for (long f : fractions) {
                    for (int sign = 0; sign < 2; sign++) {
                        bits[n] = bits(wide, sign, e, f);
                        numbers[n++] = Number.of(wide, sign, e, f);
                    }
                }
            }
            for (int i = 0; i < many; i++) {
                for (int k = 0; k < many; k++) {
                    pair(wide, bits[i], numbers[i], bits[k], numbers[k]);
                }
            }
        }
    }

    private static void pair(boolean wide, long aBits, Number a, long bBits, Number b) {
        int o = wide ? 0x60 : 0x40;
        sum(o + 1, wide, aBits, bBits, b, a);
        sum(o + 3, wide, aBits, bBits, b, a.minus());
        int[] operands = Bench.code(immediate(wide, aBits), immediate(wide, bBits), Bench.at(DATA));
        int sign = a.sign ^ b.sign;
        result(name(o + 5, aBits, bBits), wide, Bench.code(o + 5, operands), sign, a.size.multiply(b.size), BigInteger.ONE,
            a.power + b.power, 0);
        if (a.size.signum() == 0) {
            Trial.of(name(o + 7, aBits, bBits), Bench.code(o + 7, operands)).status(3).run(1).fault(ARITHMETIC, 3, 9);
        } else {
            result(name(o + 7, aBits, bBits), wide, Bench.code(o + 7, operands), sign, b.size, a.size, b.power - a.power, 0);
        }
        int order = compare(a, b);
        Trial.of(name(o + 0x11, aBits, bBits), o + 0x11, immediate(wide, aBits), immediate(wide, bBits)).status(3).run(1).fine()
            .flags(order < 0 ? 8 : order == 0 ? 4 : 0);
    }

    private static BigInteger aligned(Number a, int power) {
        return a.signed().shiftLeft(a.power - power);
    }

    private static int compare(Number a, Number b) {
        int power = Math.min(a.power, b.power);
        return aligned(a, power).compareTo(aligned(b, power));
    }

    private static void sum(int opcode, boolean wide, long aBits, long bBits, Number b, Number a) {
        int power = a.size.signum() == 0 ? b.power : b.size.signum() == 0 ? a.power : Math.min(a.power, b.power);
        BigInteger whole = (a.size.signum() == 0 ? BigInteger.ZERO : aligned(a, power)).add(b.size.signum() == 0 ? BigInteger.ZERO
            : aligned(b, power));
        result(name(opcode, aBits, bBits), wide, Bench.code(opcode, immediate(wide, aBits), immediate(wide, bBits), Bench.at(DATA)),
            whole.signum() < 0 ? 1 : 0, whole.abs(), BigInteger.ONE, power, 0);
    }

    /** Two operands, and one instruction behind the other: what an earlier one left does not count. */
    private static void twoOperands() {
        Bench.part("two operands");
        for (int width = 0; width < 2; width++) {
            boolean wide = width == 1;
            int o = wide ? 0x60 : 0x40;
            long one = bits(wide, 0, 129, 0);
            long top = 1L << (wide ? 54 : 22);
            long three = bits(wide, 0, 130, top + 4);
            long[] due = {bits(wide, 0, 131, 2), bits(wide, 0, 130, 4), three, three};
            for (int kind = 0; kind < 4; kind++) {
                int[] code = Bench.code(o + 2 * kind, immediate(wide, one), Bench.at(DATA));
                Trial.of("with two operands " + kind, code).bytes(DATA, Bench.spread(three, wide ? 8 : 4)).status(3).run(1).fine().flags(0)
                    .holds(DATA, wide ? 8 : 4, due[kind]);
            }
            int[] first = Bench.code(o + 1, immediate(wide, one), immediate(wide, three), Bench.at(DATA));
            int[] second = Bench.code(o + 5, immediate(wide, 0), immediate(wide, three), Bench.at(DATA));
            int[] third = Bench.code(o + 5, immediate(wide, 0x80), immediate(wide, 0x80), Bench.at(DATA));
            Trial.of("0 behind another", Bench.code(first, second)).run(2).fine().flags(4).holds(DATA, 8, 0);
            Trial.of("too small behind another", Bench.code(first, third)).run(2).fine().flags(4).holds(DATA, 8, 0);
            Trial.of("a whole 0 behind another", Bench.code(first, o + 0x0E, 0x00, Bench.at(DATA))).run(2).fine().flags(4).holds(DATA, 8, 0);
        }
    }

    private static void reserved() {
        Bench.part("what is reserved");
        for (int width = 0; width < 2; width++) {
            boolean wide = width == 1;
            int o = wide ? 0x60 : 0x40;
            for (long bad : new long[] {0x8000, 0x80008000L, 0x807F}) {
                int[] none = immediate(wide, bad);
                int[] fine = immediate(wide, 0x4080);
                for (int kind = 0; kind < 8; kind++) {
                    if (kind % 2 == 0) {
                        Trial.of("first of " + kind, o + kind, none, 0x51).run(1).fault(RESERVED, 0);
                        Trial.of("second of " + kind, o + kind, fine, 0x51).reg(1, (int) bad).run(1).fault(RESERVED, 0).is(1, (int) bad);
                    } else {
                        Trial.of("first of " + kind, o + kind, none, fine, 0x51).run(1).fault(RESERVED, 0);
                        Trial.of("second of " + kind, o + kind, fine, none, 0x51).run(1).fault(RESERVED, 0);
                    }
                }
                for (int kind = 8; kind < 12; kind++) {
                    Trial.of("to a whole number", o + kind, none, 0x51).run(1).fault(RESERVED, 0);
                }
                Trial.of("CMP", o + 0x11, fine, none).run(1).fault(RESERVED, 0);
                Trial.of("MNEG", o + 0x12, none, 0x51).run(1).fault(RESERVED, 0);
                Trial.of("TST", o + 0x13, none).run(1).fault(RESERVED, 0);
                Trial.of("CVT", o + 0x16, none, 0x51).run(1).fault(RESERVED, 0);
                Trial.of("ACB, limit", o + 0x0F, none, fine, 0x51, 0, 0).run(1).fault(RESERVED, 0);
                Trial.of("ACB, addend", o + 0x0F, fine, none, 0x51, 0, 0).run(1).fault(RESERVED, 0);
                Trial.of("ACB, index", o + 0x0F, fine, fine, 0x51, 0, 0).reg(1, (int) bad).run(1).fault(RESERVED, 0);
                Trial.of("as the operand is read", o + 1, none, Bench.at(Trial.END), 0x51).run(1).fault(RESERVED, 0);
                Trial.of("not ahead of the first's", o + 1, Bench.at(Trial.END), none, 0x51).run(1).fault(4, 0, Trial.END);
                Trial.of("MOV takes it", o + 0x10, none, 0x51).reg(1, 9).status(3).run(1).fine().is(1, (int) bad).flags(13);
            }
            Trial.of("MOV of a 0", o + 0x10, immediate(wide, 0), 0x51).reg(1, 9).status(11).run(1).fine().is(1, 0).flags(5);
            for (long bits : new long[] {0x40FF, 0xFFFF4081L, 0x00014080, 0x0001}) {
                Trial.of("MOV takes all bits", o + 0x10, immediate(wide, bits), 0x51).run(1).fine().is(1, (int) bits).flags(bits == 1 ? 4 : 0);
                Trial.of("TST", o + 0x13, immediate(wide, bits)).run(1).fine().flags(bits == 1 ? 4 : 0);
            }
            Trial.of("MOV of the least", o + 0x10, immediate(wide, 0x80), 0x51).status(14).run(1).fine().flags(0);
            Trial.of("MOV below 0", o + 0x10, immediate(wide, 0xC080), 0x51).status(2).run(1).fine().flags(8);
            Trial.of("e 0 is 0, whatever the fraction", o + 1, immediate(wide, 0xFFFF007FL), immediate(wide, 0x4080), 0x51).run(1).fine().is(1, 0x4080);
            Trial.of("TST of that", o + 0x13, immediate(wide, 0xFFFF007FL)).status(11).run(1).fine().flags(4);
            Trial.of("by that", o + 7, immediate(wide, 0xFFFF007FL), immediate(wide, 0x4080), 0x51).run(1).fault(ARITHMETIC, 0, 9);
            Trial.of("MNEG of e 0", o + 0x12, immediate(wide, 0xFFFF007FL), 0x51).status(3).run(1).fine().is(1, 0).flags(4);
            for (long bits : new long[] {0x80, 0x3F00, 0x3F80, 0x4000, 0x7F80}) {
                Trial.of("TST of " + bits, o + 0x13, immediate(wide, bits)).status(15).run(1).fine().flags(0);
                Trial.of("TST of " + bits + " below 0", o + 0x13, immediate(wide, bits | 0x8000)).status(7).run(1).fine().flags(8);
            }
            Trial.of("TST below 0", o + 0x13, immediate(wide, 0xC080)).status(7).run(1).fine().flags(8);
            Trial.of("MNEG of 0", o + 0x12, immediate(wide, 0), 0x51).reg(1, 9).status(3).run(1).fine().is(1, 0).flags(4);
            Trial.of("MNEG", o + 0x12, immediate(wide, 0x4080), 0x51).status(3).run(1).fine().is(1, 0xC080).flags(8);
            Trial.of("MNEG of the greatest below", o + 0x12, immediate(wide, 0xFFFFFFFFL), 0x51).status(3).run(1).fine().is(1, 0xFFFF7FFF).flags(0);
        }
    }

    private static void toWhole() {
        Bench.part("to whole numbers");
        int[] sizes = {1, 2, 4, 4};
        for (int width = 0; width < 2; width++) {
            boolean wide = width == 1;
            int bits = wide ? 55 : 23;
            for (int kind = 0; kind < 4; kind++) {
                for (int sign = 0; sign < 2; sign++) {
                    for (int e : new int[] {1, 65, 119, 120, 121, 126, 127, 128, 129, 130, 135, 136, 137, 143, 144, 145, 151, 152, 153, 159, 160, 161, 162, 183,
                        184, 185, 191, 192, 193, 215, 216, 217, 247, 248, 255}) {
                        for (long f : new long[] {0, 1, 1L << bits - 1, (1L << bits) - 1, (1L << bits - 1) - 1, 1L << bits - 8, 1L << bits - 16}) {
                            whole(wide, kind, sizes[kind], sign, e, f);
                        }
                    }
                }
            }
            Trial.of("of 0", (wide ? 0x68 : 0x48) + 3, immediate(wide, 0), 0x51).reg(1, 9).run(1).fine().is(1, 0).flags(4);
        }
        wholeOf("2147483647.5 is rounded out of an L", 159, (1L << 55) - (1L << 24), 0, 0x80000000, 10);
        wholeOf("2147483647.25 is not", 159, (1L << 55) - (1L << 25) + (1L << 23), 0, 0x7FFFFFFF, 0);
        wholeOf("-2147483648.25 is not", 160, 1L << 22, 1, 0x80000000, 8);
        wholeOf("-2147483648.5 is", 160, 1L << 23, 1, 0x7FFFFFFF, 2);
    }

    private static void wholeOf(String what, int e, long fraction, int sign, int want, int flags) {
        Trial.of(what, 0x6B, immediate(true, bits(true, sign, e, fraction)), 0x51).run(1).fine().is(1, want).flags(flags);
    }

    private static void whole(boolean wide, int kind, int size, int sign, int e, long fraction) {
        Number a = Number.of(wide, sign, e, fraction);
        BigInteger w = a.power >= 0 ? a.size.shiftLeft(a.power) : a.size.shiftRight(-a.power);
        if (kind == 3 && a.power < 0 && a.size.testBit(-a.power - 1)) {
            w = w.add(BigInteger.ONE);
        }
        w = sign == 1 ? w.negate() : w;
        int result = size == 1 ? w.byteValue() : size == 2 ? w.shortValue() : w.intValue();
        boolean v = !w.equals(BigInteger.valueOf(result));
        int flags = (result < 0 ? 8 : 0) | (result == 0 ? 4 : 0) | (v ? 2 : 0);
        int opcode = (wide ? 0x68 : 0x48) + kind;
        String what = Integer.toHexString(opcode) + " of e " + e + " fraction " + Long.toHexString(fraction) + " sign " + sign;
        int[] operand = immediate(wide, bits(wide, sign, e, fraction));
        Trial.of(what, opcode, operand, Bench.at(DATA)).status(3).run(1).fine().flags(flags)
            .holds(DATA, 8, result & (size == 4 ? 0xFFFFFFFFL : (1L << 8 * size) - 1));
        if (v) {
            Trial.of(what, opcode, operand, 0x51).status(0x20).run(1).trap(1, CODE + 2 + operand.length, 0x20 | flags);
        }
    }

    private static void fromWhole() {
        Bench.part("from whole numbers");
        int[] sizes = {1, 2, 4};
        long[] values = {0, 1, -1, 2, 127, -128, 32767, -32768, 0xFFFFFF, 0x1000000, 0x1000001, -0x1000001, 0x1000002, 0x1000003, 0x1FFFFFF, 0x7FFFFFFF,
            0x7FFFFFBF, 0x7FFFFFC0, -0x80000000L, -0x7FFFFFFFL};
        for (int width = 0; width < 2; width++) {
            boolean wide = width == 1;
            for (int kind = 0; kind < 3; kind++) {
                for (long v : values) {
                    long value = v << 64 - 8 * sizes[kind] >> 64 - 8 * sizes[kind];
                    Number a = Number.whole(value);
                    result("from " + value, wide, Bench.code((wide ? 0x6C : 0x4C) + kind, 0x8F, Bench.spread(value, sizes[kind]), Bench.at(DATA)),
                        a.sign, a.size, BigInteger.ONE, 0, 0);
                }
            }
        }
    }

    private static void widths() {
        Bench.part("from F to D and back");
        for (int sign = 0; sign < 2; sign++) {
            for (int e : new int[] {0, 1, 128, 254, 255}) {
                for (long f : new long[] {0, 1, 0x7FFFFF}) {
                    if (e == 0 && (sign == 1 || f != 0)) {
                        continue;
                    }
                    Number a = e == 0 ? Number.NONE : Number.of(false, sign, e, f);
                    result("to D", true, Bench.code(0x56, immediate(false, bits(false, sign, e, f)), Bench.at(DATA)), a.sign, a.size, BigInteger.ONE,
                        a.power, 0);
                }
                for (long f : new long[] {0, 1, (1L << 31) - 1, 1L << 31, (1L << 31) + 1, 1L << 32, (1L << 55) - 1, (1L << 55) - (1L << 31),
                    (1L << 55) - (1L << 31) - 1}) {
                    if (e == 0 && (sign == 1 || f != 0)) {
                        continue;
                    }
                    Number a = e == 0 ? Number.NONE : Number.of(true, sign, e, f);
                    result("to F", false, Bench.code(0x76, immediate(true, bits(true, sign, e, f)), Bench.at(DATA)), a.sign, a.size, BigInteger.ONE,
                        a.power, 0);
                }
            }
        }
    }

    /** Limit, addend and index as halves: whether the branch is taken. */
    private static void loops() {
        Bench.part("ACB");
        for (int width = 0; width < 2; width++) {
            boolean wide = width == 1;
            for (int limit = -2; limit <= 2; limit++) {
                for (int addend = -1; addend <= 1; addend++) {
                    for (int index = -2; index <= 2; index++) {
                        int sum = index + addend;
                        boolean goes = addend >= 0 ? sum <= limit : sum >= limit;
                        int[] code = Bench.code(wide ? 0x6F : 0x4F, immediate(wide, half(wide, limit)), immediate(wide, half(wide, addend)),
                            Bench.at(DATA), 0x34, 0x12);
                        int before = limit % 2 == 0 ? 1 : 14;
                        Trial.of("ACB " + limit + " " + addend + " " + index, code).bytes(DATA, Bench.spread(half(wide, index), wide ? 8 : 4))
                            .status(before).run(1).fine().is(15, CODE + code.length + (goes ? 0x1234 : 0)).holds(DATA, wide ? 8 : 4, half(wide, sum))
                            .flags((sum < 0 ? 8 : 0) | (sum == 0 ? 4 : 0) | before & 1);
                    }
                }
            }
            int o = wide ? 0x6F : 0x4F;
            long most = bits(wide, 0, 255, 0);
            Trial.of("overflow", o, immediate(wide, 0), immediate(wide, most), Bench.at(DATA), 0, 0).bytes(DATA, Bench.spread(most, wide ? 8 : 4))
                .status(3).run(1).fault(ARITHMETIC, 3, 8).holds(DATA, wide ? 8 : 4, most);
        }
    }

    private static long half(boolean wide, int halves) {
        int size = Math.abs(halves);
        if (size == 0) {
            return 0;
        }
        int e = 159 - Integer.numberOfLeadingZeros(size);
        long fraction = size == 3 ? 1L << (wide ? 54 : 22) : 0;
        return bits(wide, halves < 0 ? 1 : 0, e, fraction);
    }

    public static void main(String[] args) {
        pairs();
        twoOperands();
        reserved();
        toWhole();
        fromWhole();
        widths();
        loops();
        Bench.end("edges of floats");
    }
}
