import java.math.BigInteger;

/** INTEGERS and BRANCHES: the least and greatest values, what does not fit, division by 0, counts and limits. */
public final class EdgesOfIntegers {
    private static final int CODE = Trial.CODE;
    private static final int DATA = Trial.DATA;
    private static final int STACK = Trial.STACK;
    private static final int LEAST = Integer.MIN_VALUE;
    private static final int MOST = Integer.MAX_VALUE;
    private static final int[] BASES = {0x80, 0xA0, 0xC0};

    private static long[] edges(int size) {
        long least = -1L << 8 * size - 1;
        return new long[] {least, least + 1, -2, -1, 0, 1, 2, -least - 2, -least - 1};
    }

    private static long low(long v, int size) {
        return v << 64 - 8 * size >> 64 - 8 * size;
    }

    private static long plain(long v, int size) {
        return v & (1L << 8 * size) - 1;
    }

    private static int flags(long result, boolean v, boolean c) {
        return (result < 0 ? 8 : 0) | (result == 0 ? 4 : 0) | (v ? 2 : 0) | (c ? 1 : 0);
    }

    private static int[] immediate(long v, int size) {
        return Bench.code(0x8F, Bench.spread(v, size));
    }

    /** What kind (of ADD, SUB, MUL, DIV, BIS, BIC, XOR) makes of two numbers, as a whole. */
    private static long whole(int kind, long first, long second) {
        switch (kind) {
            case 0: return second + first;
            case 1: return second - first;
            case 2: return second * first;
            case 3: return first == 0 ? second : second / first;
            case 4: return second | first;
            case 5: return second & ~first;
            default: return second ^ first;
        }
    }

    private static void pairs() {
        Bench.part("two numbers");
        for (int pick = 0; pick < 3; pick++) {
            int size = 1 << pick;
            for (long a : edges(size)) {
                for (long b : edges(size)) {
                    for (int kind = 0; kind < 7; kind++) {
                        pair(BASES[pick] + 2 * kind, size, kind, a, b);
                    }
                    boolean less = plain(a, size) < plain(b, size);
                    Trial.of("CMP", BASES[pick] + 0x11, immediate(a, size), immediate(b, size)).status(2).run(1).fine()
                        .flags((a < b ? 8 : 0) | (a == b ? 4 : 0) | (less ? 1 : 0));
                    Trial.of("BIT", BASES[pick] + 0x13, immediate(a, size), immediate(b, size)).status(3).run(1).fine()
                        .flags(flags(a & b, false, true));
                }
            }
        }
    }

    private static void pair(int opcode, int size, int kind, long a, long b) {
        long whole = whole(kind, a, b);
        long result = low(whole, size);
        boolean byZero = kind == 3 && a == 0;
        boolean v = byZero || result != whole;
        boolean carry = kind == 0 ? plain(a, size) + plain(b, size) > plain(-1, size) : kind == 1 && plain(b, size) < plain(a, size);
        int before = kind < 4 ? 0x05 : (int) (a ^ b) & 1 ^ 1;
        int want = flags(result, v, kind < 4 ? carry : (before & 1) != 0);
        String what = Integer.toHexString(opcode) + " of " + a + " and " + b;
        Trial three = Trial.of(what, opcode + 1, immediate(a, size), immediate(b, size), Bench.at(DATA)).status(before).run(1);
        Trial two = Trial.of(what, opcode, immediate(a, size), Bench.at(DATA)).bytes(DATA, Bench.spread(b, size)).status(before).run(1);
        three.holds(DATA, 8, plain(result, size)).state(7, 1);
        two.holds(DATA, 8, plain(result, size)).state(7, 1);
        if (byZero) {
            three.trap(2, CODE + 8 + 2 * size, want);
            two.trap(2, CODE + 7 + size, want);
        } else {
            three.fine().flags(want);
            two.fine().flags(want);
        }
        if (v) {
            Trial.of(what, opcode, immediate(a, size), 0x51).reg(1, (int) b).status(0x20).run(1)
                .trap(byZero ? 2 : 1, CODE + 3 + size, want & ~1 | (kind < 2 && carry ? 1 : 0) | 0x20);
        }
    }

    private static void singles() {
        Bench.part("one number");
        for (int pick = 0; pick < 3; pick++) {
            int size = 1 << pick;
            int o = BASES[pick];
            for (long a : edges(size)) {
                for (int c = 0; c < 2; c++) {
                    boolean carry = c == 1;
                    long negative = low(-a, size);
                    one(o + 0x0E, a, size, c, negative, flags(negative, negative != -a, a != 0));
                    one(o + 0x10, a, size, c, a, flags(a, false, carry));
                    one(o + 0x12, a, size, c, ~a, flags(~a, false, carry));
                    Trial.of("TST " + a, o + 0x15, immediate(a, size)).status(c + 2).run(1).fine().flags(flags(a, false, false));
                    Trial.of("CLR", o + 0x14, 0x51).reg(1, -1).status(c + 2).run(1).fine().flags(4 + c).is(1, (int) ~plain(-1, size));
                    changed("INC " + a, o + 0x16, a, size, a + 1, plain(a, size) == plain(-1, size));
                    changed("DEC " + a, o + 0x17, a, size, a - 1, a == 0);
                }
            }
        }
    }

    private static void one(int opcode, long a, int size, int c, long result, int want) {
        Trial.of(Integer.toHexString(opcode) + " of " + a, opcode, immediate(a, size), Bench.at(DATA)).status(c + 2).run(1).fine()
            .flags(want).holds(DATA, 8, plain(result, size));
    }

    private static void changed(String what, int opcode, long a, int size, long whole, boolean carry) {
        long result = low(whole, size);
        Trial.of(what, opcode, Bench.at(DATA)).bytes(DATA, Bench.spread(a, size)).run(1).fine()
            .flags(flags(result, result != whole, carry)).holds(DATA, 8, plain(result, size));
    }

    private static void cases() {
        Bench.part("CASE");
        int[] table = Bench.code(0x10, 0x00, 0xF0, 0xFF, 0x00, 0x80, 0xFF, 0x7F);
        for (int pick = 0; pick < 3; pick++) {
            int size = 1 << pick;
            int o = BASES[pick] + 0x0F;
            int behind = CODE + 1 + 3 * (1 + size);
            int[] to = {behind + 0x10, behind - 0x10, behind - 0x8000, behind + 0x7FFF, behind + 8};
            for (int t = 0; t < 6; t++) {
                Trial.of("t " + t + " of 3", o, immediate(t + 5, size), immediate(5, size), immediate(3, size), table).status(15).run(1)
                    .fine().is(15, to[Math.min(t, 4)]).flags((t < 3 ? 9 : 0) | (t == 3 ? 4 : 0));
            }
            Trial.of("below the base", o, immediate(4, size), immediate(5, size), immediate(3, size)).run(1).fine().is(15, behind + 8).flags(8);
            Trial.of("limit 0, t 0", o, immediate(7, size), immediate(7, size), immediate(0, size), table).run(1).is(15, behind + 0x10).flags(4);
            Trial.of("limit 0, t 1", o, immediate(8, size), immediate(7, size), immediate(0, size), table).run(1).is(15, behind + 2).flags(0);
            Trial.of("the greatest limit is not below 0", o, immediate(0, size), immediate(0, size), immediate(-1, size), table).run(1)
                .is(15, behind + 0x10).flags(1);
        }
        Trial.of("the greatest t of a B", 0x8F, immediate(-1, 1), immediate(0, 1), immediate(-1, 1)).bytes(CODE + 7 + 510, 4, 0).run(1)
            .is(15, CODE + 7 + 4).flags(4);
        Trial.of("beyond with the limit 254", 0x8F, immediate(-1, 1), immediate(0, 1), immediate(-2, 1)).run(1)
            .is(15, CODE + 7 + 510).flags(0);
        Trial.of("the last W of memory", 0x01).bytes(Trial.END - 6, 0x8F, 0x00, 0x00, 0x00, 0x04, 0x00).reg(15, Trial.END - 6).run(1).fine()
            .is(15, Trial.END - 2 + 4);
        int behind = CODE + 16;
        Trial.of("2 * t wraps", 0xCF, Bench.l(LEAST + 1), 0x8F, Bench.spread(0, 4), Bench.l(-1), table).run(1).is(15, behind - 0x10).flags(8 + 1);
        Trial.of("2 * (limit + 1) wraps", 0xCF, Bench.l(-1), Bench.l(0), Bench.l(-2), table).run(1).is(15, behind - 2).flags(0);
    }

    private static void conversions() {
        Bench.part("CVT");
        int[][] kinds = {{0x98, 1, 4}, {0x99, 1, 2}, {0x32, 2, 4}, {0x33, 2, 1}, {0xF6, 4, 1}, {0xF7, 4, 2}};
        long[] values = {0, 1, -1, 127, 128, 129, -127, -128, -129, 255, 256, 32767, 32768, -32768, -32769, 65535, 65536, LEAST, MOST};
        for (int[] kind : kinds) {
            for (long v : values) {
                long a = low(v, kind[1]);
                long result = low(a, kind[2]);
                int want = flags(result, result != a, false);
                Trial.of("CVT " + Integer.toHexString(kind[0]) + " of " + a, kind[0], immediate(a, kind[1]), Bench.at(DATA)).status(3)
                    .run(1).fine().flags(want).holds(DATA, 8, plain(result, kind[2]));
                if (result != a) {
                    Trial.of("with IV", kind[0], immediate(a, kind[1]), 0x51).status(0x20).run(1).trap(1, CODE + 3 + kind[1], 0x20 | want);
                }
            }
        }
        int[][] zeros = {{0x9A, 1}, {0x9B, 1}, {0x3C, 2}};
        for (int[] kind : zeros) {
            for (long v : new long[] {0, 1, 127, 128, 255, 32767, 32768, 65535}) {
                long a = plain(v, kind[1]);
                Trial.of("MOVZ", kind[0], immediate(a, kind[1]), Bench.at(DATA)).longs(DATA, -1).status(3).run(1).fine()
                    .flags(flags(a, false, true)).holds(DATA, 4, a | (kind[0] == 0x9B ? 0xFFFF0000L : 0));
            }
        }
    }

    private static void shifts() {
        Bench.part("ASH and ROTL");
        int[] counts = {0, 1, 2, 30, 31, 32, 33, 62, 63, 64, 65, 127, -1, -2, -31, -32, -33, -62, -63, -64, -65, -127, -128};
        long[] values = {0, 1, -1, 2, -2, 0x3FFFFFFF, 0x40000000, MOST, LEAST, LEAST + 1, -0x40000000, -0x40000001,
            Long.MIN_VALUE, Long.MAX_VALUE, 1L << 62, (1L << 62) - 1, -1L << 62, (-1L << 62) - 1};
        for (int count : counts) {
            for (long value : values) {
                for (int size = 4; size <= 8; size += 4) {
                    long v = low(value, size);
                    BigInteger whole = count > 0 ? BigInteger.valueOf(v).shiftLeft(count) : BigInteger.valueOf(v).shiftRight(-count);
                    long result = low(whole.longValue(), size);
                    boolean over = count > 0 && !whole.equals(BigInteger.valueOf(result));
                    Trial.of("ASH " + count + " of " + v, size == 4 ? 0x78 : 0x79, Bench.b(count), immediate(v, size), Bench.at(DATA))
                        .status(3).run(1).fine().flags(flags(result, over, false)).holds(DATA, 8, size == 4 ? plain(result, 4) : result);
                }
                int turned = Integer.rotateLeft((int) value, Math.floorMod(count, 32));
                Trial.of("ROTL " + count, 0x9C, Bench.b(count), Bench.l((int) value), 0x51).status(3).run(1).fine()
                    .flags(flags(turned, false, true)).is(1, turned);
            }
        }
        Trial.of("ASH with IV", 0x78, 0x01, Bench.l(MOST), 0x51).status(0x20).run(1).trap(1, CODE + 8, 0x2A).is(1, -2);
        Trial.of("ASH all out, with IV", 0x78, 0x20, 0x01, 0x51).status(0x20).run(1).trap(1, CODE + 4, 0x26).is(1, 0);
        Trial.of("ASH of 0 all out", 0x78, 0x20, 0x00, 0x51).status(0x20).run(1).fine().flags(4);
    }

    private static void longProducts() {
        Bench.part("EMUL and EDIV");
        long[] some = {0, 1, -1, MOST, LEAST};
        for (long a : some) {
            for (long b : some) {
                for (long c : some) {
                    long product = a * b + c;
                    Trial.of("EMUL " + a + " " + b + " " + c, 0x7A, Bench.l((int) a), Bench.l((int) b), Bench.l((int) c), Bench.at(DATA))
                        .status(3).run(1).fine().flags(flags(product, false, false)).holds(DATA, 8, product);
                }
            }
        }
        long[] numbers = {0, 1, -1, 7, -7, MOST, LEAST, (long) MOST + 1, (long) LEAST - 1, 2L * MOST + 1, Long.MAX_VALUE, Long.MIN_VALUE,
            0x4000000000000000L, 0x3FFFFFFFFFFFFFFFL, -0x4000000000000000L};
        for (long number : numbers) {
            for (long divisor : new long[] {0, 1, -1, 2, -2, MOST, LEAST}) {
                divided(number, divisor);
            }
        }
    }

    private static void divided(long number, long divisor) {
        BigInteger whole = divisor == 0 ? BigInteger.ZERO : BigInteger.valueOf(number).divide(BigInteger.valueOf(divisor));
        boolean v = divisor == 0 || whole.bitLength() > 31;
        int quotient = v ? (int) number : whole.intValue();
        int rest = v ? 0 : (int) (number - (long) quotient * divisor);
        int want = flags(quotient, v, false);
        Trial t = Trial.of("EDIV of " + number + " by " + divisor, 0x7B, Bench.l((int) divisor), Bench.q(number), 0x51, 0x52);
        t.reg(2, 9).status(3).run(1).is(1, quotient).is(2, rest);
        if (divisor == 0) {
            t.trap(2, CODE + 17, want);
        } else {
            t.fine().flags(want);
        }
        if (v) {
            Trial.of("EDIV with IV", 0x7B, Bench.l((int) divisor), Bench.q(number), 0x51, 0x52).status(0x20).run(1)
                .trap(divisor == 0 ? 2 : 1, CODE + 17, 0x20 | want);
        }
    }

    private static void carries() {
        Bench.part("ADWC and SBWC");
        int[] some = {0, 1, -1, MOST, LEAST, MOST - 1, LEAST + 1};
        for (int r : some) {
            for (int m : some) {
                for (int c = 0; c < 2; c++) {
                    long sum = (long) m + r + c;
                    boolean carry = plain(m, 4) + plain(r, 4) + c > 0xFFFFFFFFL;
                    Trial.of("ADWC " + m + " " + r + " " + c, 0xD8, Bench.l(r), 0x51).reg(1, m).status(c | 2).run(1).fine()
                        .flags(flags((int) sum, sum != (int) sum, carry)).is(1, (int) sum);
                    long rest = (long) m - r - c;
                    boolean borrow = plain(m, 4) - plain(r, 4) - c < 0;
                    Trial.of("SBWC " + m + " " + r + " " + c, 0xD9, Bench.l(r), 0x51).reg(1, m).status(c | 2).run(1).fine()
                        .flags(flags((int) rest, rest != (int) rest, borrow)).is(1, (int) rest);
                }
            }
        }
        for (int a : new int[] {0, 1, -1, 32767, -32768}) {
            for (int b : new int[] {0, 1, -1, 32767, -32768}) {
                int sum = (short) (a + b);
                Trial.of("ADAWI", 0x58, Bench.w(a), Bench.at(DATA)).longs(DATA, b & 0xFFFF).run(1).fine()
                    .flags(flags(sum, sum != a + b, (a & 0xFFFF) + (b & 0xFFFF) > 0xFFFF)).holds(DATA, 4, sum & 0xFFFF);
            }
        }
        Trial.of("CLRQ", 0x7C, Bench.at(DATA)).longs(DATA, -1, -1, -1).status(11).run(1).fine().flags(5).holds(DATA, 8, 0)
            .holds(DATA + 8, 4, 0xFFFFFFFFL);
        for (long v : new long[] {0, 1, -1, 0x80000000L, 0x8000000000000000L, 0x7FFFFFFFFFFFFFFFL, 0x100000000L}) {
            Trial.of("MOVQ", 0x7D, Bench.q(v), Bench.at(DATA)).status(3).run(1).fine().flags(flags(v, false, true)).holds(DATA, 8, v);
        }
    }

    private static void loops() {
        Bench.part("ACB");
        int[][] kinds = {{0x9D, 1}, {0x3D, 2}, {0xF1, 4}};
        for (int[] kind : kinds) {
            int size = kind[1];
            long[] some = edges(size);
            for (long limit : some) {
                for (long addend : new long[] {0, 1, -1, some[0], some[8]}) {
                    for (long index : some) {
                        long whole = index + addend;
                        long result = low(whole, size);
                        boolean goes = addend >= 0 ? result <= limit : result >= limit;
                        Trial.of("ACB " + limit + " " + addend + " " + index, kind[0], immediate(limit, size), immediate(addend, size),
                            Bench.at(DATA), 0x34, 0x12).bytes(DATA, Bench.spread(index, size)).status(1).run(1).fine()
                            .flags(flags(result, result != whole, true)).holds(DATA, 8, plain(result, size))
                            .is(15, CODE + 10 + 2 * size + (goes ? 0x1234 : 0));
                    }
                }
            }
        }
        Bench.part("AOB and SOB");
        for (int m : new int[] {0, 1, 2, 3, -1, MOST, LEAST, LEAST + 1, MOST - 1}) {
            for (int limit : new int[] {0, 1, 2, 3, -1, MOST, LEAST}) {
                int up = m + 1;
                counted(Bench.code(0xF2, Bench.l(limit)), m, up, m == MOST, up < limit);
                counted(Bench.code(0xF3, Bench.l(limit)), m, up, m == MOST, up <= limit);
            }
            counted(Bench.code(0xF4), m, m - 1, m == LEAST, m - 1 >= 0);
            counted(Bench.code(0xF5), m, m - 1, m == LEAST, m - 1 > 0);
        }
        Trial.of("AOBLSS with IV", 0xF2, 0x00, 0x51, 0x10).reg(1, MOST).status(0x20).run(1).trap(1, CODE + 4 + 16, 0x2A).is(1, LEAST);
    }

    private static void counted(int[] head, int m, int result, boolean v, boolean goes) {
        Trial.of("loop " + Integer.toHexString(head[0]) + " of " + m, head, 0x51, 0xF0).reg(1, m).status(1).run(1).fine().is(1, result)
            .flags(flags(result, v, true)).is(15, CODE + head.length + 2 - (goes ? 16 : 0));
    }

    private static void pushesAndStatus() {
        Bench.part("pushes, addresses, STATUS");
        for (int v : new int[] {0, 1, -1, LEAST, MOST}) {
            Trial.of("PUSHL", 0xDD, Bench.l(v)).status(3).run(1).fine().flags(flags(v, false, true)).holds(STACK - 4, 4, v & 0xFFFFFFFFL)
                .is(14, STACK - 4);
            for (int opcode : new int[] {0x9E, 0x3E, 0xDE, 0x7E}) {
                Trial.of("MOVA", opcode, Bench.at(v), 0x51).status(3).run(1).fine().flags(flags(v, false, true)).is(1, v);
                Trial.of("PUSHA", opcode + 1, Bench.at(v)).status(3).run(1).fine().flags(flags(v, false, true))
                    .holds(STACK - 4, 4, v & 0xFFFFFFFFL);
            }
        }
        Trial.of("MOVPSL", 0xDC, 0x51).status(0x00C500EF).run(1).fine().is(1, 0x00C500EF).is(16, 0x00C500EF);
        Trial.of("BISPSW, all eight", 0xB8, Bench.w(0xFF)).run(1).fine().is(16, 0xFF);
        Trial.of("BISPSW, none", 0xB8, 0x00).status(0x2F).run(1).fine().is(16, 0x2F);
        Trial.of("BICPSW, all eight", 0xB9, Bench.w(0xFF)).status(0xEF).run(1).fine().is(16, 0);
        Trial.of("BICPSW, one", 0xB9, 0x04).status(0xEF).run(1).fine().is(16, 0xEB);
        for (int bit = 8; bit < 16; bit++) {
            Trial.of("BISPSW, more", 0xB8, Bench.w(1 << bit | 1)).status(0x22).run(1).fault(24, 0x22);
            Trial.of("BICPSW, more", 0xB9, Bench.w(1 << bit | 2)).status(0x22).run(1).fault(24, 0x22);
        }
        Bench.part("INDEX");
        int[][] subscripts = {{5, 5, 9, 0}, {9, 5, 9, 0}, {4, 5, 9, 7}, {10, 5, 9, 7}, {-1, -1, -1, 0}, {LEAST, LEAST, MOST, 0},
            {MOST, LEAST, MOST, 0}, {0, 1, -1, 7}, {LEAST, LEAST + 1, MOST, 7}, {MOST, LEAST, MOST - 1, 7}};
        for (int[] s : subscripts) {
            int out = (3 + s[0]) * 100;
            Trial t = Trial.of("INDEX " + s[0], 0x0A, Bench.l(s[0]), Bench.l(s[1]), Bench.l(s[2]), Bench.l(100), 0x03, 0x51);
            t.status(3).run(1).is(1, out);
            if (s[3] == 0) {
                t.fine().flags(flags(out, false, false));
            } else {
                t.trap(7, CODE + 23, flags(out, false, false));
            }
        }
        Trial.of("INDEX wraps without V", 0x0A, Bench.l(MOST), 0x00, Bench.l(MOST), 0x02, 0x01, 0x51).status(0x20).run(1).fine().is(1, 0).flags(4);
    }

    private static void conditions() {
        Bench.part("conditions");
        for (int flags = 0; flags < 16; flags++) {
            boolean n = (flags & 8) != 0;
            boolean z = (flags & 4) != 0;
            boolean v = (flags & 2) != 0;
            boolean c = (flags & 1) != 0;
            boolean[] go = {true, !z, z, !n && !z, n || z, false, false, !n, n, !c && !z, c || z, !v, v, !c, c};
            for (int opcode = 0x11; opcode < 0x20; opcode++) {
                if (opcode != 0x16 && opcode != 0x17) {
                    Trial.of("branch " + Integer.toHexString(opcode) + " with " + flags, opcode, 0x40).status(flags).run(1).fine().flags(flags)
                        .is(15, CODE + 2 + (go[opcode - 0x11] ? 0x40 : 0));
                }
            }
        }
    }

    private static void branches() {
        Bench.part("branches");
        Trial.of("the least B", 0x11, 0x80).run(1).is(15, CODE + 2 - 128);
        Trial.of("the greatest B", 0x11, 0x7F).run(1).is(15, CODE + 2 + 127);
        Trial.of("to itself", 0x11, 0xFE).run(1).is(15, CODE);
        Trial.of("the least W", 0x31, 0x00, 0x80).run(1).is(15, CODE + 3 - 32768);
        Trial.of("the greatest W", 0x31, 0xFF, 0x7F).run(1).is(15, CODE + 3 + 32767);
        Trial.of("BSB", 0x10, 0x80).run(1).is(15, CODE + 2 - 128).holds(STACK - 4, 4, CODE + 2);
        Trial.of("BSB with a W", 0x30, 0xFF, 0x7F).run(1).is(15, CODE + 3 + 32767).holds(STACK - 4, 4, CODE + 3);
        Trial.of("BSB whose push fails", 0x10, 0x10).reg(14, 3).run(1).fault(4, 0, -1);
        Trial.of("JSB whose push fails", 0x16, 0x81).reg(1, 0x300).reg(14, 3).run(1).fault(4, 0, -1).is(1, 0x300);
        Trial.of("JSB", 0x16, Bench.at(-1)).run(1).fine().is(15, -1).holds(STACK - 4, 4, CODE + 6);
        Trial.of("JMP", 0x17, 0x81).reg(1, 0x300).run(1).fine().is(15, 0x300).is(1, 0x301);
        for (int v : new int[] {0, 1, -1, -2, LEAST, MOST}) {
            boolean odd = (v & 1) != 0;
            Trial.of("BLBS", 0xE8, Bench.l(v), 0x10).status(15).run(1).is(15, CODE + 7 + (odd ? 16 : 0)).flags(15);
            Trial.of("BLBC", 0xE9, Bench.l(v), 0x10).status(15).run(1).is(15, CODE + 7 + (odd ? 0 : 16)).flags(15);
        }
    }

    public static void main(String[] args) {
        pairs();
        singles();
        cases();
        conversions();
        shifts();
        longProducts();
        carries();
        loops();
        pushesAndStatus();
        conditions();
        branches();
        Bench.end("edges of integers");
    }
}
