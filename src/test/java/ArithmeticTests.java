import java.math.BigInteger;
import java.util.Random;

/** Integers, floats and decimals against sums that BigInteger works out. */
public final class ArithmeticTests {
    private static final int CODE = 0x200;
    private static final int VECTORS = 0x400;
    private static final int DATA = 0x1000;
    private static final int STACK = 0x2000;
    private static final long[] EDGES = {0, 1, 2, 3, 7, 10, 100, 0x7F, 0x80, 0xFF, 0x100, 0x7FFF, 0x8000, 0xFFFF,
        0x10000, 0x7FFFFFFF, 0x80000000L, 0xFFFFFFFFL, 0xFFFFFFFFFFFFFFFFL, 0x8000000000000000L, 0x7FFFFFFFFFFFFFFFL};

    private static final Random RANDOM = new Random(20261115);
    private static int wrong = 0;

    private static void due(String what, long got, long want) {
        if (got != want) {
            wrong++;
            if (wrong < 60) {
                System.out.println(what + " answered " + Long.toHexString(got) + ", due is " + Long.toHexString(want));
            }
        }
    }

    /** A new computer for each round: no object is used for more calls than the document promises answers for. */
    private static RingComputer made() {
        RingComputer x = new RingComputer(32, 0);
        x.write(17, VECTORS);
        int[] vectors = new int[260];
        for (int offset = 0; offset < 260; offset += 4) {
            vectors[offset] = 0x01;
            vectors[offset + 1] = 0x08;
        }
        bytes(x, VECTORS, vectors);
        return x;
    }

    private static void bytes(RingComputer x, int address, int... values) {
        for (int from = 0; from < values.length; from += 20) {
            int[] five = new int[5];
            for (int i = 0; i < 20 && from + i < values.length; i++) {
                five[i / 4] |= (values[from + i] & 255) << 24 - i % 4 * 8;
            }
            x.feed(five[0], five[1], five[2], five[3], five[4]);
        }
        if (!x.load(address, values.length)) {
            throw new IllegalStateException("not loaded");
        }
    }

    /** One instruction with R1 .. as they are set; its flags, or the offset and number of what was taken. */
    private static long step(RingComputer x, int status, int... code) {
        int[] padded = new int[code.length + 4];
        System.arraycopy(code, 0, padded, 0, code.length);
        bytes(x, CODE, padded);
        x.set(16, 0x04000000 | status);
        x.set(14, STACK);
        if (x.state(0) == 0) {
            x.halt();
        }
        x.go(CODE);
        int taken = x.state(2);
        x.run(1);
        if (x.state(2) != taken) {
            long parameter = x.state(3) == 52 ? x.memory((int) x.register(14), 4) : 0;
            long pushed = x.state(3) == 52 ? x.memory((int) x.register(14) + 8, 4) & 15 : 0;
            return 0x10000L * x.state(3) + 0x100 * parameter + pushed;
        }
        return x.register(16) & 15;
    }

    private static long value() {
        if (RANDOM.nextInt(2) == 0) {
            return EDGES[RANDOM.nextInt(EDGES.length)] + RANDOM.nextInt(3) - 1;
        }
        return RANDOM.nextLong() >>> RANDOM.nextInt(64);
    }

    private static long signed(long v, int size) {
        return v << 64 - 8 * size >> 64 - 8 * size;
    }

    private static long unsigned(long v, int size) {
        return size == 8 ? v : v & (1L << 8 * size) - 1;
    }

    private static long flags(long result, boolean v, boolean c) {
        return (result < 0 ? 8 : 0) | (result == 0 ? 4 : 0) | (v ? 2 : 0) | (c ? 1 : 0);
    }

    private static void setQuad(RingComputer x, int n, long v) {
        x.set(n, (int) v);
        x.set(n + 1, (int) (v >>> 32));
    }

    private static long quad(RingComputer x, int n) {
        return x.register(n) | x.register(n + 1) << 32;
    }

    private static void integers() {
        for (int round = 0; round < 6000; round++) {
            RingComputer x = made();
            int pick = RANDOM.nextInt(3);
            int size = 1 << pick;
            int base = 0x80 + 0x20 * pick;
            long a = signed(value(), size);
            long b = signed(value(), size);
            int kind = RANDOM.nextInt(7);
            int carry = RANDOM.nextInt(2);
            long old = RANDOM.nextInt();
            x.set(1, (int) a);
            x.set(2, (int) b);
            x.set(3, (int) old);
            long got = step(x, carry, base + 2 * kind + 1, 0x51, 0x52, 0x53);
            long whole = 0;
            boolean v = false;
            boolean c = carry == 1;
            long taken = 0;
            switch (kind) {
                case 0: whole = b + a; c = Long.compareUnsigned(unsigned(a, size) + unsigned(b, size), unsigned(-1, size)) > 0; break;
                case 1: whole = b - a; c = unsigned(b, size) < unsigned(a, size); break;
                case 2: whole = b * a; c = false; break;
                case 3: whole = a == 0 ? b : b / a; c = false; break;
                case 4: whole = b | a; break;
                case 5: whole = b & ~a; break;
                default: whole = b ^ a;
            }
            long result = signed(whole, size);
            v = result != whole || kind == 3 && a == 0;
            if (kind == 3 && a == 0) {
                taken = 0x10000L * 52 + 0x200;
            }
            String what = "integers " + kind + " size " + size + " " + a + " " + b;
            due(what + " flags", got, taken + flags(result, v, c));
            long mask = size == 4 ? 0xFFFFFFFFL : (1L << 8 * size) - 1;
            due(what, x.register(3), (old & 0xFFFFFFFFL & ~mask) | result & mask);
            x.set(2, (int) b);
            long two = step(x, carry, base + 2 * kind, 0x51, 0x52);
            due(what + " 2 flags", two, got);
            due(what + " 2", x.register(2) & mask, result & mask);
            if (v && taken == 0) {
                x.set(2, (int) b);
                long trapped = step(x, 0x20, base + 2 * kind + 1, 0x51, 0x52, 0x53);
                due(what + " trap", trapped, 0x10000L * 52 + 0x100 + flags(result, true, c));
            }
        }
    }

    private static void compares() {
        for (int round = 0; round < 1500; round++) {
            RingComputer x = made();
            int pick = RANDOM.nextInt(3);
            int size = 1 << pick;
            int base = 0x80 + 0x20 * pick;
            long a = signed(value(), size);
            long b = RANDOM.nextInt(4) == 0 ? a : signed(value(), size);
            x.set(1, (int) a);
            x.set(2, (int) b);
            long less = (a < b ? 8 : 0) | (a == b ? 4 : 0) | (unsigned(a, size) < unsigned(b, size) ? 1 : 0);
            due("CMP", step(x, 3, base + 0x11, 0x51, 0x52), less);
            due("BIT", step(x, 3, base + 0x13, 0x51, 0x52), flags(a & b, false, true));
            due("TST", step(x, 3, base + 0x15, 0x51), flags(a, false, false));
            due("MOV", step(x, 3, base + 0x10, 0x51, 0x53), flags(a, false, true));
            due("MCOM", step(x, 2, base + 0x12, 0x51, 0x53), flags(~a, false, false));
            long low = unsigned(~a, size);
            due("MCOM value", unsigned(x.register(3), size), low);
            due("MNEG", step(x, 2, base + 0x0E, 0x51, 0x53), flags(signed(-a, size), signed(-a, size) != -a, a != 0));
            due("MNEG value", unsigned(x.register(3), size), unsigned(-a, size));
            due("INC", step(x, 0, base + 0x16, 0x51), flags(signed(a + 1, size), signed(a + 1, size) != a + 1, a == -1));
            x.set(1, (int) a);
            due("DEC", step(x, 0, base + 0x17, 0x51), flags(signed(a - 1, size), signed(a - 1, size) != a - 1, a == 0));
            due("DEC value", unsigned(x.register(1), size), unsigned(a - 1, size));
            due("CLR", step(x, 0xB, base + 0x14, 0x51), 5);
            due("CLR value", unsigned(x.register(1), size), 0);
        }
    }

    private static void wide() {
        for (int round = 0; round < 4000; round++) {
            RingComputer x = made();
            long a = value();
            long b = signed(value(), 4);
            long c = signed(value(), 4);
            setQuad(x, 2, a);
            x.set(1, (int) b);
            x.set(4, (int) c);
            long product = b * c + (int) a;
            due("EMUL", step(x, 3, 0x7A, 0x51, 0x54, 0x52, 0x56), flags(product, false, false));
            due("EMUL value", quad(x, 6), product);
            long quotient = b == 0 ? 0 : a / b;
            boolean v = b == 0 || quotient != (int) quotient;
            long result = v ? (int) a : quotient;
            long expected = flags(result, v, false) + (b == 0 ? 0x10000L * 52 + 0x200 : 0);
            due("EDIV", step(x, 1, 0x7B, 0x51, 0x52, 0x56, 0x57), expected);
            due("EDIV quotient", x.register(6), result & 0xFFFFFFFFL);
            due("EDIV rest", x.register(7), v ? 0 : a % b & 0xFFFFFFFFL);
            int count = (byte) value();
            x.set(5, count);
            shift(x, 8, a, count);
            shift(x, 4, (int) a, count);
            due("ROTL", step(x, 3, 0x9C, 0x55, 0x52, 0x56), flags(Integer.rotateLeft((int) a, count & 31), false, true));
            due("ROTL value", x.register(6), Integer.rotateLeft((int) a, count & 31) & 0xFFFFFFFFL);
            carries(x, b, c, round & 1);
            conversions(x, (int) a);
        }
    }

    private static void shift(RingComputer x, int size, long a, int count) {
        BigInteger whole = BigInteger.valueOf(a);
        BigInteger moved = count >= 0 ? whole.shiftLeft(count) : whole.shiftRight(-count);
        long result = signed(moved.longValue(), size);
        boolean v = count > 0 && !moved.equals(BigInteger.valueOf(result));
        due("ASH", step(x, 3, size == 8 ? 0x79 : 0x78, 0x55, 0x52, 0x56), flags(result, v, false));
        due("ASH value", size == 8 ? quad(x, 6) : (int) x.register(6), result);
    }

    private static void carries(RingComputer x, long b, long c, int carry) {
        x.set(6, (int) c);
        long whole = c + b + carry;
        boolean out = (c & 0xFFFFFFFFL) + (b & 0xFFFFFFFFL) + carry > 0xFFFFFFFFL;
        due("ADWC", step(x, carry, 0xD8, 0x51, 0x56), flags((int) whole, whole != (int) whole, out));
        due("ADWC value", x.register(6), whole & 0xFFFFFFFFL);
        x.set(6, (int) c);
        whole = c - b - carry;
        out = (c & 0xFFFFFFFFL) < (b & 0xFFFFFFFFL) + carry;
        due("SBWC", step(x, carry, 0xD9, 0x51, 0x56), flags((int) whole, whole != (int) whole, out));
        due("SBWC value", x.register(6), whole & 0xFFFFFFFFL);
    }

    private static void conversions(RingComputer x, int a) {
        int[] codes = {0x98, 0x99, 0x32, 0x33, 0xF6, 0xF7};
        int[] from = {1, 1, 2, 2, 4, 4};
        int[] to = {4, 2, 4, 1, 1, 2};
        for (int i = 0; i < 6; i++) {
            long in = signed(a, from[i]);
            long result = signed(in, to[i]);
            x.set(6, 0);
            due("CVT", step(x, 3, codes[i], 0x52, 0x56), flags(result, result != in, false));
            due("CVT value", x.register(6), unsigned(result, to[i]));
        }
        due("MOVZBL", step(x, 3, 0x9A, 0x52, 0x56), flags(a & 255, false, true));
        due("MOVZBL value", x.register(6), a & 255);
        x.set(6, -1);
        due("MOVZBW", step(x, 3, 0x9B, 0x52, 0x56), flags(a & 255, false, true));
        due("MOVZBW value", x.register(6), 0xFFFF0000L | a & 255);
        due("MOVZWL", step(x, 3, 0x3C, 0x52, 0x56), flags(a & 0xFFFF, false, true));
        due("MOVZWL value", x.register(6), a & 0xFFFF);
    }

    // ==== floats: a number is sign * m * 2 ^ e, m and e exact

    private static long floatBits(boolean wide) {
        long bits = RANDOM.nextLong();
        int e = RANDOM.nextInt(6) == 0 ? RANDOM.nextInt(256) : 118 + RANDOM.nextInt(24);
        bits = bits & ~0x7F80L | (long) e << 7;
        if (RANDOM.nextInt(4) == 0) {
            bits &= 0x0000FFFFL;
        }
        if (RANDOM.nextInt(4) == 0) {
            bits &= 0xFF80L | 0xFL << 48 | 0xFL << 16;
        }
        if (RANDOM.nextInt(6) == 0) {
            bits |= 0xFFFFFFFFFFFF007FL;
        }
        if (e == 0) {
            bits &= ~0x8000L;
        }
        return wide ? bits : bits & 0xFFFFFFFFL;
    }

    private static BigInteger fraction(long bits, boolean wide) {
        if ((bits & 0x7F80) == 0) {
            return BigInteger.ZERO;
        }
        long f = 0x80 | bits & 0x7F;
        f = f << 16 | bits >>> 16 & 0xFFFF;
        if (wide) {
            f = f << 32 | (bits >>> 32 & 0xFFFF) << 16 | bits >>> 48;
        }
        BigInteger m = BigInteger.valueOf(f);
        return (bits & 0x8000) != 0 ? m.negate() : m;
    }

    /** The power of 2 that the fraction's lowest bit stands for. */
    private static int power(long bits, boolean wide) {
        return (int) (bits >>> 7 & 255) - 128 - (wide ? 56 : 24);
    }

    /** n / d * 2 ^ p rounded, as bits; -8, -10 for what is out of range. */
    private static long rounded(BigInteger n, BigInteger d, int p, boolean wide) {
        if (n.signum() == 0) {
            return 0;
        }
        int want = wide ? 56 : 24;
        BigInteger size = n.abs();
        int up = want + 2 - size.bitLength() + d.bitLength();
        BigInteger top = up > 0 ? size.shiftLeft(up) : size;
        BigInteger under = up > 0 ? d : d.shiftLeft(-up);
        int q = p - up;
        BigInteger[] both = top.divideAndRemainder(under);
        BigInteger whole = both[0];
        int extra = whole.bitLength() - want;
        BigInteger half = BigInteger.ONE.shiftLeft(extra - 1);
        BigInteger kept = whole.add(half).shiftRight(extra);
        q += extra;
        if (kept.bitLength() > want) {
            kept = kept.shiftRight(1);
            q++;
        }
        int e = q + want + 128;
        if (e > 255) {
            return -8;
        }
        if (e < 1) {
            return -10;
        }
        long f = kept.longValue();
        if (!wide) {
            f <<= 32;
        }
        long bits = (n.signum() < 0 ? 0x8000 : 0) | (long) e << 7 | f >>> 48 & 0x7F | (f >>> 32 & 0xFFFF) << 16;
        return wide ? bits | (f >>> 16 & 0xFFFF) << 32 | (f & 0xFFFF) << 48 : bits;
    }

    private static long floatFlags(long bits) {
        return ((bits & 0x8000) != 0 ? 8 : 0) | ((bits & 0x7F80) == 0 ? 4 : 0);
    }

    private static void floats() {
        for (int round = 0; round < 12000; round++) {
            RingComputer x = made();
            boolean wide = RANDOM.nextBoolean();
            long a = floatBits(wide);
            long b = RANDOM.nextInt(8) == 0 ? a ^ RANDOM.nextInt(2) << 16 : floatBits(wide);
            if ((b & 0xFF80) == 0x8000) {
                b = 0;
            }
            setQuad(x, 2, a);
            setQuad(x, 4, b);
            BigInteger fa = fraction(a, wide);
            BigInteger fb = fraction(b, wide);
            int pa = power(a, wide);
            int pb = power(b, wide);
            int kind = RANDOM.nextInt(4);
            long due;
            if (kind < 2) {
                int low = Math.min(pa, pb);
                BigInteger left = fb.shiftLeft(pb - low);
                BigInteger right = fa.shiftLeft(pa - low);
                due = rounded(kind == 0 ? left.add(right) : left.subtract(right), BigInteger.ONE, low, wide);
            } else if (kind == 2) {
                due = rounded(fa.multiply(fb), BigInteger.ONE, pa + pb, wide);
            } else {
                BigInteger n = fa.signum() < 0 ? fb.negate() : fb;
                due = fa.signum() == 0 ? -9 : rounded(n, fa.abs(), pb - pa, wide);
            }
            int code = (wide ? 0x60 : 0x40) + 2 * kind;
            int fu = RANDOM.nextInt(2) * 0x40;
            String what = "float " + kind + wide + Long.toHexString(a) + " " + Long.toHexString(b);
            boolean fault = due == -8 || due == -9 || due == -10 && fu != 0;
            long result = due == -10 ? 0 : due;
            setQuad(x, 6, 0);
            long got = step(x, 3 | fu, code + 1, 0x52, 0x54, 0x56);
            due(what + " flags", got, fault ? 0x10000L * 52 - 0x100 * due + 3 : floatFlags(result));
            due(what, wide ? quad(x, 6) : x.register(6), fault ? 0 : result);
            got = step(x, 3 | fu, code, 0x52, 0x54);
            due(what + " 2", wide ? quad(x, 4) : x.register(4), fault ? (wide ? b : b & 0xFFFFFFFFL) : result);
            floatCompare(x, a, b, wide, fa, fb, pa, pb);
            floatToInteger(x, a, wide, fa, pa);
        }
    }

    private static void floatCompare(RingComputer x, long a, long b, boolean wide, BigInteger fa, BigInteger fb, int pa,
            int pb) {
        setQuad(x, 4, b);
        int low = Math.min(pa, pb);
        int order = fa.shiftLeft(pa - low).compareTo(fb.shiftLeft(pb - low));
        int code = wide ? 0x60 : 0x40;
        due("CMPx", step(x, 3, code + 0x11, 0x52, 0x54), (order < 0 ? 8 : 0) | (order == 0 ? 4 : 0));
        due("TSTx", step(x, 3, code + 0x13, 0x52), floatFlags(a));
        due("MNEGx", step(x, 3, code + 0x12, 0x52, 0x56), floatFlags((a & 0x7F80) == 0 ? 0 : a ^ 0x8000));
        due("MOVx", step(x, 3, code + 0x10, 0x52, 0x56), floatFlags(a) | 1);
        due("MOVx value", wide ? quad(x, 6) : x.register(6), a);
        long other = rounded(fa, BigInteger.ONE, pa, !wide);
        long got = step(x, 3, wide ? 0x76 : 0x56, 0x52, 0x56);
        if (other == -8) {
            due("CVTxy overflow", got, 0x10000L * 52 + 0x803);
        } else {
            due("CVTxy", got, floatFlags(other));
            due("CVTxy value", wide ? x.register(6) : quad(x, 6), other);
        }
    }

    private static void floatToInteger(RingComputer x, long a, boolean wide, BigInteger fa, int pa) {
        BigInteger size = fa.abs();
        BigInteger cut = pa >= 0 ? size.shiftLeft(pa) : size.shiftRight(-pa);
        BigInteger near = pa >= 0 ? cut : size.shiftLeft(1).shiftRight(-pa).add(BigInteger.ONE).shiftRight(1);
        for (int i = 0; i < 4; i++) {
            BigInteger whole = i == 3 ? near : cut;
            whole = fa.signum() < 0 ? whole.negate() : whole;
            int to = i == 0 ? 1 : i == 1 ? 2 : 4;
            long result = signed(whole.longValue(), to);
            boolean v = !whole.equals(BigInteger.valueOf(result));
            x.set(6, 0);
            due("CVT to " + i + " of " + Long.toHexString(a), step(x, 3, (wide ? 0x68 : 0x48) + i, 0x52, 0x56),
                flags(result, v, false));
            due("CVT to value", x.register(6), unsigned(result, to));
        }
        long in = signed(value(), 4);
        x.set(1, (int) in);
        for (int i = 0; i < 3; i++) {
            long part = signed(in, 1 << i);
            long bits = rounded(BigInteger.valueOf(part), BigInteger.ONE, 0, wide);
            due("CVT from", step(x, 3, (wide ? 0x6C : 0x4C) + i, 0x51, 0x56), floatFlags(bits));
            due("CVT from value", wide ? quad(x, 6) : x.register(6), bits);
        }
    }

    // ==== decimals

    private static final int A = DATA;
    private static final int B = DATA + 32;
    private static final int C = DATA + 64;

    private static BigInteger digits(int count) {
        BigInteger bound = BigInteger.TEN.pow(count == 0 ? 0 : RANDOM.nextInt(3) == 0 ? RANDOM.nextInt(count + 1) : count);
        BigInteger v = new BigInteger(110, RANDOM).mod(bound);
        return RANDOM.nextBoolean() ? v : v.negate();
    }

    private static int[] packed(BigInteger v, int count, boolean anySign) {
        int[] out = new int[count / 2 + 1];
        String text = v.abs().toString();
        StringBuilder all = new StringBuilder();
        for (int i = text.length(); i < 2 * out.length - 1; i++) {
            all.append('0');
        }
        all.append(text);
        String used = all.toString();
        used = used.substring(used.length() - (2 * out.length - 1));
        int[] plus = {0xA, 0xC, 0xE, 0xF};
        int[] minus = {0xB, 0xD};
        int sign = v.signum() < 0 ? 0xD : 0xC;
        if (anySign) {
            sign = v.signum() < 0 ? minus[RANDOM.nextInt(2)] : plus[RANDOM.nextInt(4)];
        }
        for (int i = 0; i < out.length; i++) {
            int high = used.charAt(2 * i) - '0';
            int low = i == out.length - 1 ? sign : used.charAt(2 * i + 1) - '0';
            out[i] = high << 4 | low;
        }
        if (anySign && count % 2 == 0) {
            out[0] |= RANDOM.nextInt(16) << 4;
        }
        return out;
    }

    private static int[] pack(Object... parts) {
        int[] all = new int[200];
        int n = 0;
        for (Object part : parts) {
            if (part instanceof Integer i) {
                all[n++] = i;
            } else {
                for (int i : (int[]) part) {
                    all[n++] = i;
                }
            }
        }
        return java.util.Arrays.copyOf(all, n);
    }

    private static int[] at(int address) {
        return new int[] {0x9F, address & 255, address >>> 8 & 255, address >>> 16 & 255, address >>> 24};
    }

    private static void checkDecimal(String what, RingComputer x, long got, BigInteger value, int count, int where) {
        BigInteger low = value.abs().mod(BigInteger.TEN.pow(count));
        boolean v = low.compareTo(value.abs()) != 0;
        BigInteger result = value.signum() < 0 ? low.negate() : low;
        due(what + " flags", got, (result.signum() < 0 ? 8 : 0) | (result.signum() == 0 ? 4 : 0) | (v ? 2 : 0));
        int[] bytes = packed(result, count, false);
        for (int i = 0; i < bytes.length; i++) {
            due(what + " byte " + i + " of " + value + " in " + count, x.memory(where + i, 1), bytes[i]);
        }
        due(what + " behind", x.memory(where + bytes.length, 1), 0x55);
    }

    private static void decimals() {
        int[] filler = new int[100];
        java.util.Arrays.fill(filler, 0x55);
        for (int round = 0; round < 6000; round++) {
            RingComputer x = made();
            int ca = RANDOM.nextInt(32);
            int cb = RANDOM.nextInt(32);
            int cc = RANDOM.nextInt(32);
            BigInteger a = digits(ca);
            BigInteger b = RANDOM.nextInt(10) == 0 && ca <= cb ? a : digits(cb);
            bytes(x, DATA, filler);
            bytes(x, A, packed(a, ca, true));
            bytes(x, B, packed(b, cb, true));
            int kind = RANDOM.nextInt(4);
            int[] codes = {0x21, 0x23, 0x25, 0x27};
            if (kind == 3 && a.signum() == 0) {
                long got = step(x, 9, pack(0x27, ca, at(A), cb, at(B), cc, at(C)));
                due("DIVP by 0", got, 0x10000L * 52 + 0x400 + 11);
                due("DIVP by 0 writes nothing", x.memory(C, 1), 0x55);
                continue;
            }
            BigInteger value = kind == 0 ? a.add(b) : kind == 1 ? b.subtract(a) : kind == 2 ? a.multiply(b) : b.divide(a);
            for (int k = 0; k < 6; k++) {
                x.set(k, -1);
            }
            long got = step(x, 3, pack(codes[kind], ca, at(A), cb, at(B), cc, at(C)));
            checkDecimal("decimal " + kind + " " + a + " " + b, x, got, value, cc, C);
            due("R0", x.register(0), 0);
            due("R1", x.register(1), A);
            due("R3", x.register(3), B);
            due("R5", x.register(5), C);
            due("R2", x.register(2) + x.register(4), 0);
            got = step(x, 3, pack(0x37, ca, at(A), cb, at(B)));
            due("CMPP4", got, (a.compareTo(b) < 0 ? 8 : 0) | (a.equals(b) ? 4 : 0));
            bytes(x, C, java.util.Arrays.copyOf(filler, 20));
            checkDecimal("MOVP", x, step(x, 3, pack(0x34, ca, at(A), at(C))), a, ca, C);
            if (kind < 2) {
                got = step(x, 3, pack(0x20 + 2 * kind, ca, at(A), cb, at(B)));
                checkDecimal("decimal four " + kind, x, got, value, cb, B);
            }
            shifts(x, a, ca, cc, filler);
            longs(x, a, ca, cc, filler);
            characters(x, a, ca, cc, filler);
        }
    }

    private static void shifts(RingComputer x, BigInteger a, int ca, int cc, int[] filler) {
        int by = (byte) (RANDOM.nextInt(8) == 0 ? RANDOM.nextInt(256) : RANDOM.nextInt(60) - 30);
        int round = RANDOM.nextInt(10);
        bytes(x, C, java.util.Arrays.copyOf(filler, 20));
        BigInteger size = a.abs();
        if (by >= 0) {
            size = size.multiply(BigInteger.TEN.pow(by));
        } else {
            BigInteger power = BigInteger.TEN.pow(-by - 1);
            size = size.divide(power).add(BigInteger.valueOf(round)).divide(BigInteger.TEN);
        }
        long got = step(x, 3, pack(0xF8, 0x8F, by & 255, ca, at(A), round, cc, at(C)));
        checkDecimal("ASHP " + a + " by " + by, x, got, a.signum() < 0 ? size.negate() : size, cc, C);
    }

    private static void longs(RingComputer x, BigInteger a, int ca, int cc, int[] filler) {
        int value = (int) value();
        x.set(6, value);
        bytes(x, C, java.util.Arrays.copyOf(filler, 20));
        checkDecimal("CVTLP", x, step(x, 3, pack(0xF9, 0x56, cc, at(C))), BigInteger.valueOf(value), cc, C);
        due("CVTLP R1", x.register(1), C);
        long got = step(x, 3, pack(0x36, ca, at(A), 0x56));
        int low = a.intValue();
        due("CVTPL flags of " + a, got, flags(low, !a.equals(BigInteger.valueOf(low)), false));
        due("CVTPL", (int) x.register(6), low);
    }

    private static void characters(RingComputer x, BigInteger a, int ca, int cc, int[] filler) {
        bytes(x, C, java.util.Arrays.copyOf(filler, 40));
        long got = step(x, 3, pack(0x08, ca, at(A), cc, at(C)));
        BigInteger low = a.abs().mod(BigInteger.TEN.pow(cc));
        boolean v = !low.equals(a.abs());
        boolean below = a.signum() < 0 && low.signum() != 0;
        due("CVTPS", got, (below ? 8 : 0) | (low.signum() == 0 ? 4 : 0) | (v ? 2 : 0));
        due("CVTPS sign", x.memory(C, 1), below ? '-' : '+');
        BigInteger rest = low;
        for (int i = cc; i > 0; i--) {
            due("CVTPS digit", x.memory(C + i, 1), '0' + rest.mod(BigInteger.TEN).intValue());
            rest = rest.divide(BigInteger.TEN);
        }
        due("CVTPS behind", x.memory(C + cc + 1, 1), 0x55);
        int cd = RANDOM.nextInt(32);
        bytes(x, B, java.util.Arrays.copyOf(filler, 20));
        got = step(x, 3, pack(0x09, cc, at(C), cd, at(B)));
        checkDecimal("CVTSP", x, got, below ? low.negate() : low, cd, B);
        trailing(x, a, ca, cc, filler);
    }

    /** The table has at each byte that byte + 1, and the table back has that byte - 1. */
    private static void trailing(RingComputer x, BigInteger a, int ca, int cc, int[] filler) {
        int table = DATA + 512;
        int[] on = new int[256];
        int[] off = new int[256];
        for (int i = 0; i < 256; i++) {
            on[i] = i + 1 & 255;
            off[i] = i - 1 & 255;
        }
        bytes(x, table, on);
        bytes(x, table + 256, off);
        bytes(x, C, java.util.Arrays.copyOf(filler, 40));
        int last = (int) x.memory(A + ca / 2, 1);
        long got = step(x, 3, pack(0x24, ca, at(A), at(table), cc, at(C)));
        BigInteger low = a.abs().mod(BigInteger.TEN.pow(cc));
        boolean v = !low.equals(a.abs());
        boolean below = a.signum() < 0 && low.signum() != 0;
        due("CVTPT", got, (below ? 8 : 0) | (low.signum() == 0 ? 4 : 0) | (v ? 2 : 0));
        BigInteger rest = low.divide(BigInteger.TEN);
        if (cc > 0) {
            due("CVTPT last", x.memory(C + cc - 1, 1), last + 1 & 255);
        }
        for (int i = cc - 2; i >= 0; i--) {
            due("CVTPT digit", x.memory(C + i, 1), '0' + rest.mod(BigInteger.TEN).intValue());
            rest = rest.divide(BigInteger.TEN);
        }
        due("CVTPT behind", x.memory(C + cc, 1), 0x55);
        int cd = RANDOM.nextInt(32);
        bytes(x, B, java.util.Arrays.copyOf(filler, 20));
        got = step(x, 3, pack(0x26, cc, at(C), at(table + 256), cd, at(B)));
        if (ca == 0 && cc > 0 && last >>> 4 > 9) {
            due("CVTTP reserved", got, 0x10000L * 24);
            return;
        }
        BigInteger back = cc == 0 ? BigInteger.ZERO
            : low.subtract(low.mod(BigInteger.TEN)).add(BigInteger.valueOf(last >>> 4));
        boolean minus = (last & 15) == 11 || (last & 15) == 13;
        checkDecimal("CVTTP", x, got, minus ? back.negate() : back, cd, B);
    }

    public static void main(String[] args) {
        integers();
        compares();
        wide();
        floats();
        decimals();
        System.out.println(wrong == 0 ? "arithmetic: all answers are as due" : wrong + " answers are not as due");
        if (wrong != 0) {
            System.exit(1);
        }
    }
}
