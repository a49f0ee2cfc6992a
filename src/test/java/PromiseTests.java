/** Each promise of the document, with answers worked out by hand: ordinary inputs, its edges, wrong inputs. */
public final class PromiseTests {
    private static final int CODE = 0x200;
    private static final int VECTORS = 0x400;
    private static final int HANDLER = 0x700;
    private static final int DATA = 0x1000;
    private static final int STACK = 0x2000;
    private static final int INTERRUPT_STACK = 0x2800;
    private static final long FIRST_STATUS = 0x041F0000L;

    private static int wrong = 0;
    private static String part = "";

    private static void due(String what, long got, long want) {
        if (got != want) {
            wrong++;
            System.out.println(part + ": " + what + " answered " + got + " (" + Long.toHexString(got) + "), due is " + want
                + " (" + Long.toHexString(want) + ")");
        }
    }

    private static void yes(String what, boolean got) {
        due(what, got ? 1 : 0, 1);
    }

    private static void no(String what, boolean got) {
        due(what, got ? 1 : 0, 0);
    }

    private static void tape(RingComputer x, int... values) {
        for (int from = 0; from < values.length; from += 20) {
            int[] five = new int[5];
            for (int i = 0; i < 20 && from + i < values.length; i++) {
                five[i / 4] |= (values[from + i] & 255) << 24 - i % 4 * 8;
            }
            yes("feed", x.feed(five[0], five[1], five[2], five[3], five[4]));
        }
    }

    private static void bytes(RingComputer x, int address, int... values) {
        tape(x, values);
        yes("load", x.load(address, values.length));
    }

    private static void longs(RingComputer x, int address, int... values) {
        int[] all = new int[4 * values.length];
        for (int i = 0; i < all.length; i++) {
            all[i] = values[i / 4] >>> i % 4 * 8 & 255;
        }
        bytes(x, address, all);
    }

    private static void text(RingComputer x, int address, String text) {
        int[] all = new int[text.length()];
        for (int i = 0; i < all.length; i++) {
            all[i] = text.charAt(i);
        }
        bytes(x, address, all);
    }

    private static String textAt(RingComputer x, int address, int many) {
        StringBuilder out = new StringBuilder();
        for (int i = 0; i < many; i++) {
            out.append((char) x.memory(address + i, 1));
        }
        return out.toString();
    }

    private static void sameText(String what, String got, String want) {
        if (!got.equals(want)) {
            wrong++;
            System.out.println(part + ": " + what + " is '" + got + "', due is '" + want + "'");
        }
    }

    /** Kernel mode on the kernel's stack; each vector leads to HALT (bytes 0) on the interrupt stack. */
    private static RingComputer made(int... code) {
        RingComputer x = new RingComputer(32, 8);
        int[] vectors = new int[65];
        for (int i = 0; i < 65; i++) {
            vectors[i] = HANDLER | 1;
        }
        longs(x, VECTORS, vectors);
        x.write(17, VECTORS);
        x.write(4, INTERRUPT_STACK);
        x.write(19, 4);
        x.set(16, 0);
        x.set(14, STACK);
        bytes(x, CODE, code);
        x.go(CODE);
        return x;
    }

    private static int[] code(Object... parts) {
        int n = 0;
        int[] all = new int[400];
        for (Object one : parts) {
            if (one instanceof Integer i) {
                all[n++] = i;
            } else {
                for (int i : (int[]) one) {
                    all[n++] = i;
                }
            }
        }
        return java.util.Arrays.copyOf(all, n);
    }

    private static int[] at(int address) {
        return new int[] {0x9F, address & 255, address >>> 8 & 255, address >>> 16 & 255, address >>> 24};
    }

    private static int[] imm(int value) {
        return new int[] {0x8F, value & 255, value >>> 8 & 255, value >>> 16 & 255, value >>> 24};
    }

    /** What was taken: its offset, with the PC and STATUS that were pushed. */
    private static void taken(RingComputer x, String what, int offset, int pc, long status, int... parameters) {
        due(what + ": offset", x.state(3), offset);
        int sp = (int) x.register(14) & 0x7FFFFFFF;
        for (int i = 0; i < parameters.length; i++) {
            due(what + ": parameter " + i, x.memory(sp + 4 * (parameters.length - 1 - i), 4), parameters[i] & 0xFFFFFFFFL);
        }
        due(what + ": PC", x.memory(sp + 4 * parameters.length, 4), pc & 0xFFFFFFFFL);
        due(what + ": STATUS", x.memory(sp + 4 * parameters.length + 4, 4), status);
    }

    private static void promise1() {
        part = "promise 1";
        int[][] sizes = {{8, 0, 8, 0}, {128, 64, 128, 64}, {7, -1, 32, 8}, {129, 65, 32, 8}, {-5, 1000, 32, 8}, {32, 1, 32, 1}};
        for (int[] s : sizes) {
            RingComputer x = new RingComputer(s[0], s[1]);
            due("last byte", x.memory(s[2] * 512 - 1, 1), 0);
            due("behind memory", x.memory(s[2] * 512, 1), -1);
            due("last sector", x.disk(s[3] - 1, 511), s[3] == 0 ? -1 : 0);
            due("behind the disk", x.disk(s[3], 0), -1);
        }
        RingComputer x = new RingComputer(32, 8);
        for (int k = 0; k < 16; k++) {
            due("register", x.register(k), 0);
        }
        due("STATUS", x.register(16), FIRST_STATUS);
        due("IPL", x.special(18), 31);
        int[] zero = {0, 1, 2, 3, 4, 8, 9, 10, 11, 12, 13, 16, 17, 19, 21, 24, 26, 27, 32, 33, 48, 49, 56};
        for (int k : zero) {
            due("special " + k, x.special(k), 0);
        }
        due("special 34", x.special(34), 128);
        due("special 50", x.special(50), 128);
        due("HALTED", x.state(0), 3);
        for (int k = 1; k < 8; k++) {
            due("state", x.state(k), 0);
        }
        due("no step", x.run(5), 0);
        due("nothing is typed", x.typed(0), -1);
    }

    private static void promises2to4() {
        part = "promise 2";
        RingComputer x = new RingComputer(8, 2);
        for (int i = 0; i < 50; i++) {
            yes("feed", x.feed(0x01020304, 0x05060708, 0x090A0B0C, 0x0D0E0F10, 0x11121314 + i));
        }
        due("bytes of the tape", x.state(5), 1000);
        no("more than 1000", x.feed(1, 2, 3, 4, 5));
        due("bytes of the tape", x.state(5), 1000);
        part = "promise 3";
        no("none", x.load(0, 0));
        no("below none", x.load(0, -1));
        no("more than there are", x.load(0, 1001));
        no("below memory", x.load(-1, 4));
        no("behind memory", x.load(4096 - 3, 4));
        no("far behind", x.load(Integer.MAX_VALUE, 4));
        due("the tape stays", x.state(5), 1000);
        yes("at the end", x.load(4096 - 20, 20));
        due("the highest of a first", x.memory(4096 - 20, 8), 0x0807060504030201L);
        due("the last", x.memory(4095, 1), 0x14);
        due("the tape is empty", x.state(5), 0);
        no("empty", x.load(0, 1));
        part = "promise 4";
        no("empty", x.stow(0, 1));
        x.feed(0x01020304, 0, 0, 0, 0x7F);
        no("no such sector", x.stow(2, 1));
        no("no such sector", x.stow(-1, 1));
        no("none", x.stow(0, 0));
        no("more than there are", x.stow(0, 21));
        yes("stow", x.stow(1, 20));
        due("byte", x.disk(1, 0), 1);
        due("byte", x.disk(1, 19), 0x7F);
        due("the others", x.disk(1, 20), 0);
        x.feed(0x0A000000, 0, 0, 0, 0);
        yes("again", x.stow(1, 1));
        due("byte", x.disk(1, 0), 10);
        due("the others are 0", x.disk(1, 19), 0);
        for (int i = 0; i < 26; i++) {
            x.feed(-1, -1, -1, -1, -1);
        }
        no("above 512", x.stow(0, 513));
        yes("all of it", x.stow(0, 512));
        due("the last byte", x.disk(0, 511), 255);
        due("the tape is empty", x.state(5), 0);
    }

    private static void promise5() {
        part = "promise 5";
        RingComputer x = made(0x01, 0x01, 0x00);
        due("0", x.run(0), -1);
        due("below", x.run(-3), -1);
        due("2001", x.run(2001), -1);
        due("steps", x.run(1), 1);
        due("steps till HALT", x.run(2000), 2);
        due("HALTED", x.run(2000), 0);
        due("steps in all", x.state(1), 3);
        due("PC behind HALT", x.register(15), CODE + 3);
        due("by an instruction", x.state(0), 1);
        due("done", x.state(7), 2);
    }

    private static void promises6and7() {
        part = "promise 6";
        RingComputer x = new RingComputer(8, 1);
        due("below", x.register(-1), -1);
        due("above", x.register(17), -1);
        part = "promise 7";
        no("below", x.set(-1, 7));
        no("above", x.set(17, 7));
        for (int k = 0; k < 16; k++) {
            yes("set", x.set(k, -1 - k));
            due("without sign", x.register(k), 0xFFFFFFFFL - k);
        }
        for (int k = 0; k < 4; k++) {
            yes("stack pointer", x.write(k, 100 + k));
        }
        yes("all bits", x.set(16, -1));
        due("bits that are always 0", x.register(16), 0x4FDF00FFL);
        due("the interrupt stack's stays", x.register(14), 0xFFFFFFFFL - 14);
        yes("user", x.set(16, 3 << 24));
        due("the user's", x.register(14), 103);
        due("the interrupt stack's", x.special(4), 0xFFFFFFFFL - 14);
        x.set(14, 7);
        due("SP is special 3", x.special(3), 7);
        yes("executive", x.set(16, 1 << 24));
        due("the executive's", x.register(14), 101);
        due("the user's", x.special(3), 7);
        yes("written as SP", x.write(1, 9));
        due("SP", x.register(14), 9);
    }

    private static void promises8and9() {
        part = "promises 8 and 9";
        RingComputer x = new RingComputer(8, 1);
        int[] none = {-1, 5, 6, 7, 14, 15, 20, 22, 23, 25, 28, 31, 35, 36, 47, 51, 55, 57, 58, 59, 61, 63, 64, 1000};
        for (int k : none) {
            due("no such " + k, x.special(k), -1);
        }
        int[] unwritten = {-1, 5, 7, 14, 15, 22, 23, 26, 28, 33, 36, 51, 55, 59, 62, 63, 64, -2000000000};
        for (int k : unwritten) {
            no("not written " + k, x.write(k, 1));
        }
        due("62", x.special(62), 0x01000611);
        long[][] bits = {{8, 0xFFFFFFFFL}, {9, 0x3FFFFF}, {10, 0xFFFFFFFFL}, {11, 0x3FFFFF}, {12, 0xFFFFFFFFL}, {13, 0x3FFFFF},
            {16, 0xFFFFFFFFL}, {17, 0xFFFFFE00L}, {18, 31}, {21, 0xFFFE}, {27, 0xFFFFFFFFL}, {48, 0xFFFFFFFFL},
            {49, 0xFFFFFFFFL}, {56, 1}};
        for (long[] b : bits) {
            yes("write " + b[0], x.write((int) b[0], -1));
            due("bits of " + b[0], x.special((int) b[0]), b[1]);
        }
        due("IPL is STATUS's", x.register(16) >> 16 & 31, 31);
        x.write(18, 35);
        due("five bits", x.special(18), 3);
        yes("ASTLVL 4", x.write(19, 4));
        no("ASTLVL 5", x.write(19, 5));
        no("ASTLVL -1", x.write(19, -1));
        due("ASTLVL stays", x.special(19), 4);
        x.write(21, 0);
        yes("SIRR", x.write(20, 3));
        yes("SIRR 15", x.write(20, 15));
        yes("SIRR 0 does nothing", x.write(20, 0));
        yes("SIRR 16 does nothing", x.write(20, 16));
        yes("SIRR -1 does nothing", x.write(20, -1));
        due("SISR", x.special(21), 0x8008);
    }

    private static void clock() {
        part = "clock";
        RingComputer x = new RingComputer(8, 1);
        x.write(25, 100);
        x.write(24, 0x10);
        due("TRANSFER", x.special(26), 100);
        x.write(24, 0x20);
        due("SINGLE", x.special(26), 101);
        x.write(24, 0x21);
        due("SINGLE not with RUN", x.special(26), 101);
        due("RUN", x.special(24), 1);
        x.write(25, -1);
        x.write(24, 0x30);
        due("from -1 it becomes NEXT", x.special(26), 0xFFFFFFFFL);
        due("DUE", x.special(24), 0x80);
        x.write(24, 0x20);
        due("LATE", x.special(24), 0x80000080L);
        x.write(24, 0x80);
        due("DUE ends", x.special(24), 0x80000000L);
        x.write(24, 0x80000040);
        due("LATE ends, ENABLED", x.special(24), 0x40);
        x = made(0x01, 0x01, 0x01, 0x01, 0x01);
        x.write(27, -2);
        x.write(25, -2);
        x.write(24, 0x51);
        x.run(1);
        due("COUNT grows", x.special(26), 0xFFFFFFFFL);
        due("DAY grows", x.special(27), 0xFFFFFFFFL);
        due("NOP was done", x.register(15), CODE + 1);
        x.run(1);
        due("CLOCK is taken in that step", x.state(3), 192);
        due("level", x.special(18), 24);
        due("DAY stays 0", x.special(27), 0);
        x.write(24, 0x41);
        x.halt();
        x.proceed();
        x.run(1);
        due("DAY stays 0", x.special(27), 0);
    }

    private static void terminal() {
        part = "promises 12 and 13";
        RingComputer x = new RingComputer(8, 1);
        no("key", x.key(256));
        no("key", x.key(-1));
        yes("key", x.key(255));
        no("it is THERE", x.key(7));
        due("THERE", x.special(32), 0x80);
        due("the byte", x.special(33), 255);
        due("reading by the console changes nothing", x.special(32), 0x80);
        x.write(32, 0xFF);
        due("ENABLED alone", x.special(32), 0xC0);
        due("none", x.typed(0), -1);
        yes("typed", x.write(35, 0x141));
        due("READY", x.special(34), 0);
        due("typed", x.typed(0), 0x41);
        yes("lost", x.write(35, 0x42));
        due("lost", x.typed(0), 0x41);
        due("typed in all", x.state(4), 1);
        due("below", x.typed(-1), -1);
        x = made(code(0xDB, imm(33), 0x51, 0x01, 0x01, 0x01));
        x.key(65);
        x.write(35, 66);
        x.run(1);
        due("MFPR reads it", x.register(1), 65);
        due("not THERE", x.special(32), 0);
        x.run(1);
        due("not READY in the second step", x.special(34), 0);
        x.run(1);
        due("READY in the third", x.special(34), 128);
        yes("a key again", x.key(66));
        x = made(code(0xDA, imm(0x58), imm(35), 0x01, 0x01, 0x01, 0x01));
        x.write(34, 64);
        due("READY and ENABLED", x.special(34), 0xC0);
        x.write(18, 20);
        x.run(1);
        due("MTPR types", x.typed(0), 0x58);
        x.run(2);
        due("not READY", x.special(34), 0x40);
        x.run(1);
        due("READY", x.special(34), 0xC0);
        x.write(18, 19);
        x.run(1);
        due("TYPED", x.state(3), 252);
        due("level", x.special(18), 20);
    }

    private static void typedRing() {
        part = "promise 13";
        RingComputer x = new RingComputer(8, 0);
        int[] nops = new int[240];
        java.util.Arrays.fill(nops, 1);
        bytes(x, 0, nops);
        x.go(0);
        for (int i = 0; i < 70; i++) {
            x.write(35, i);
            x.run(3);
        }
        due("all", x.state(4), 70);
        due("the last", x.typed(0), 69);
        due("the 64th last", x.typed(63), 6);
        due("not one of the last 64", x.typed(64), -1);
    }

    private static void requests() {
        part = "requests";
        RingComputer x = made(0x01, 0x01, 0x01);
        x.write(32, 64);
        x.write(34, 64);
        x.key(1);
        x.write(20, 5);
        x.write(18, 20);
        x.run(1);
        due("none above IPL", x.state(2), 0);
        x.set(16, 0x00000010);
        x.run(1);
        due("KEY first", x.state(3), 248);
        due("STATUS", x.register(16), 0x04140000L);
        taken(x, "KEY", 248, CODE + 1, 0x10);
        x.write(18, 0);
        x.run(1);
        due("then TYPED", x.state(3), 252);
        x.write(18, 0);
        x.run(1);
        due("then the software's", x.state(3), 148);
        due("its bit ends", x.special(21), 0);
        due("level", x.special(18), 5);
        due("three taken", x.state(2), 3);
        due("no instruction but NOP", x.state(7), 1);
        x = made(0x01, 0x01, 0x01);
        x.write(32, 64);
        x.key(1);
        x.write(18, 31);
        x.run(1);
        x.write(32, 0);
        x.write(18, 0);
        x.run(1);
        due("a request stands till it is taken", x.state(3), 248);
    }

    private static void diskOfSteps() {
        part = "disk";
        RingComputer x = made(0x01, 0x01, 0x01, 0x01, 0x01, 0x01, 0x01, 0x01, 0x01, 0x01, 0x01, 0x01);
        tape(x, 11, 12, 13);
        x.stow(2, 3);
        x.write(49, DATA);
        x.write(50, 0x43);
        due("3 does nothing", x.special(50), 0xC0);
        x.write(50, 0x41);
        due("begun", x.special(50), 0x40);
        x.write(48, 2);
        x.write(50, 0x02);
        due("ENABLED alone", x.special(50), 0);
        x.run(4);
        due("not yet", x.memory(DATA, 1), 0);
        x.run(1);
        due("in the fifth step", x.memory(DATA, 4), 0x0D0C0B);
        due("READY", x.special(50), 0x80);
        due("nothing taken", x.state(2), 0);
        x.write(48, 8);
        x.write(50, 0x42);
        x.run(5);
        due("FAILED", x.special(50), 0x80C0);
        due("DISK is taken in the fifth step", x.state(3), 256);
        due("level", x.special(18), 21);
        x = made(0x01, 0x01, 0x01, 0x01, 0x01, 0x01);
        bytes(x, 32 * 512 - 2, 7, 8);
        x.write(49, 32 * 512 - 512);
        x.write(48, 7);
        x.write(50, 2);
        x.run(5);
        due("written", x.disk(7, 511), 8);
        due("not FAILED", x.special(50), 0x80);
        x.write(49, 32 * 512 - 511);
        x.write(50, 1);
        x.run(1);
        x.halt();
        x.go(CODE);
        x.run(4);
        due("the memory is not there", x.special(50), 0x8080);
    }

    private static void promise10() {
        part = "promise 10";
        RingComputer x = new RingComputer(8, 1);
        bytes(x, 4088, 0x81, 0x82, 0x83, 0x84, 0x85, 0x86, 0x87, 0xF8);
        due("1", x.memory(4088, 1), 0x81);
        due("2", x.memory(4088, 2), 0x8281);
        due("4", x.memory(4088, 4), 0x84838281L);
        due("8", x.memory(4088, 8), 0xF887868584838281L);
        due("3", x.memory(4088, 3), -1);
        due("0", x.memory(4088, 0), -1);
        due("16", x.memory(0, 16), -1);
        due("-1", x.memory(0, -1), -1);
        due("not all there", x.memory(4089, 8), -1);
        due("below", x.memory(-1, 1), -1);
        due("behind", x.memory(4096, 1), -1);
    }

    /** S pages 0 .. 31 are the physical ones; P0 pages 0 .. 15 of the table at S 0xC00 have page + 16, P1's last too. */
    private static RingComputer mapped(int... code) {
        RingComputer x = made(code);
        int[] system = new int[32];
        int[] process = new int[16];
        for (int i = 0; i < 32; i++) {
            system[i] = 0xA0000000 | i;
        }
        for (int i = 0; i < 16; i++) {
            process[i] = 0xA0000000 | i + 16;
        }
        longs(x, 0x800, system);
        longs(x, 0xC00, process);
        x.write(12, 0x800);
        x.write(13, 32);
        x.write(8, 0x80000C00);
        x.write(9, 16);
        x.write(10, 0x80000C00 - 4 * 0x1FFFF0);
        x.write(11, 0x1FFFF8);
        x.write(4, 0x80000000 | INTERRUPT_STACK);
        x.set(14, 0x80000000 | STACK);
        x.write(56, 1);
        x.set(15, 0x80000000 | CODE);
        return x;
    }

    private static void promise11() {
        part = "promise 11";
        RingComputer x = mapped(0x01);
        due("P0", x.where(0x205, 3, true), 0x2205);
        due("P0 above its length", x.where(16 * 512, 3, false), -2);
        due("to write", x.where(16 * 512, 3, true), -6);
        due("P1", x.where(0x7FFFFFFF, 0, false), 31 * 512 + 511);
        due("P1 below its length", x.where(0x40000000 + 0x1FFFF7 * 512, 0, false), -2);
        due("S", x.where(0x80000003, 2, true), 3);
        due("S above its length", x.where(0x80004000, 0, false), -2);
        due("region 3", x.where(0xC0000000, 0, false), -2);
        due("nothing is kept", x.state(6), 0);
        due("MODIFIED stays", x.memory(0xC04, 4), 0xA0000011L);
        int[] writers = {-1, -1, 0, -1, 3, 1, 0, -1, 2, 1, 0, -1, 2, 1, 0, -1};
        int[] readers = {-1, -1, 0, 0, 3, 1, 1, 1, 2, 2, 2, 2, 3, 3, 3, 3};
        for (int entryCode = 0; entryCode < 16; entryCode++) {
            longs(x, 0xC00, 1 << 31 | entryCode << 27 | 17);
            for (int mode = 0; mode < 4; mode++) {
                due("write code " + entryCode + " mode " + mode, x.where(1, mode | 4, true), mode <= writers[entryCode] ? 0x2201 : -5);
                due("read code " + entryCode + " mode " + mode, x.where(1, mode - 8, false), mode <= readers[entryCode] ? 0x2201 : -1);
            }
        }
        longs(x, 0xC00, 4 << 27 | 17);
        due("not valid", x.where(1, 3, false), -11);
        due("not valid, to write", x.where(1, 3, true), -15);
        longs(x, 0xC00, 2 << 27 | 17);
        due("rights come first", x.where(1, 3, true), -5);
        longs(x, 0xC00, 0xA0000020);
        due("beyond memory", x.where(1, 3, true), -100);
        longs(x, 0x800 + 4 * 6, 0x20000006);
        due("the table's page is missing", x.where(1, 3, false), -13);
        due("to write", x.where(1, 3, true), -17);
        longs(x, 0x800 + 4 * 6, 0x80000006);
        due("no rights are asked for the table's page", x.where(513, 3, false), 17 * 512 + 1);
        longs(x, 0x800 + 4 * 6, 0x80000020);
        due("the entry beyond memory", x.where(1, 3, false), -100);
        x.write(8, 0x80003FF0);
        due("the table's first pages", x.where(1, 3, false) == -4 ? 1 : 0, 0);
        due("the table above S", x.where(4 * 512, 3, false), -4);
        x.write(8, 0x00000C00);
        due("the table not in S", x.where(1, 3, true), -8);
        x.write(12, 32 * 512 - 4);
        due("the S entry is there", x.where(0x80000000, 0, false), -1);
        due("the next is not", x.where(0x80000200, 0, false), -100);
        x.write(12, 0);
        longs(x, 0, 0xA0000003);
        due("an S entry at 0", x.where(0x80000001, 3, false), 3 * 512 + 1);
        x.write(56, 0);
        due("no map", x.where(32 * 512 - 1, 3, true), 32 * 512 - 1);
        due("no map, beyond", x.where(32 * 512, 3, true), -100);
        due("no map, far beyond", x.where(-1, 3, true), -100);
    }

    private static void promise21() {
        part = "promise 21";
        RingComputer x = mapped(code(0x90, at(0x205), at(0x406), 0x00));
        longs(x, 0xC00, 0xA0000010, 0xA0000011, 0xA0000012);
        x.run(1);
        due("code page", x.kept(17, 1), 0x80000200L);
        due("code entry", x.kept(17, 2), 0xA0000001L);
        due("table's page", x.kept(22, 0), 1);
        due("table's page", x.kept(22, 1), 0x80000C00L);
        due("read page", x.kept(1, 1), 0x200);
        due("read entry", x.kept(1, 2), 0xA0000011L);
        due("written page", x.kept(2, 1), 0x400);
        due("written entry", x.kept(2, 2), 0xA4000012L);
        due("MODIFIED in memory", x.memory(0xC08, 4), 0xA4000012L);
        due("not of the read one", x.memory(0xC04, 4), 0xA0000011L);
        due("entries", x.state(6), 4);
        due("none", x.kept(0, 0), 0);
        due("none", x.kept(0, 1), -1);
        due("none", x.kept(0, 2), -1);
        due("below", x.kept(-1, 0), -1);
        due("above", x.kept(32, 0), -1);
        due("what", x.kept(1, 3), -1);
        due("what", x.kept(1, -1), -1);
        longs(x, 0xC04, 0);
        due("the kept one counts", x.where(0x205, 3, false), 0x2205);
        x.write(58, 0x805);
        due("TBIS of another page", x.kept(1, 0), 1);
        x.write(58, 0x3FF);
        due("TBIS", x.kept(1, 0), 0);
        due("the entry's code is 0 now", x.where(0x205, 3, false), -1);
        x.write(9, 16);
        due("P0 and P1 go", x.state(6), 2);
        x.write(57, 0);
        due("all go", x.state(6), 0);
        x.where(0x80000000, 0, false);
        due("where keeps nothing", x.state(6), 0);
    }

    private static void faults() {
        part = "faults";
        RingComputer x = mapped(code(0xD0, 0x81, at(0x0BFE), 0x00));
        x.set(1, 0x400);
        x.set(16, 0x1F0000);
        x.set(14, 0x80000000 | STACK);
        longs(x, 0xC00 + 4 * 6, 0x20000016);
        x.run(1);
        taken(x, "MISSING of the second page", 36, 0x80000200, 0x1F0000, 0xC00, 4);
        due("R1 is as it was", x.register(1), 0x400);
        due("STATUS", x.register(16), FIRST_STATUS);
        due("MODIFIED of the first page stays", x.memory(0xC00 + 4 * 5, 4), 0xA4000015L);
        due("nothing is written", x.memory(0x2BFE, 2), 0);
        due("not done", x.state(7), 0);
        x = mapped(code(0xC0, 0x81, 0x82, 0x00));
        x.set(1, 0x400);
        x.set(2, 0xC0000004);
        x.run(1);
        taken(x, "ACCESS for writing of m", 32, 0x80000200, 0, 0xC0000004, 5);
        due("R1", x.register(1), 0x400);
        due("R2", x.register(2), 0xC0000004L);
        x = made(code(0xD0, 0x51, at(32 * 512 - 2), 0x00));
        x.run(1);
        taken(x, "MACHINE CHECK", 4, CODE, 0, 32 * 512);
        x = made(0x57);
        x.run(1);
        taken(x, "no such opcode", 16, CODE, 0);
        x = made(0x03);
        x.set(16, 0x10);
        x.run(1);
        taken(x, "BPT", 44, CODE, 0x10);
        x = made(0x00);
        x.set(16, 0x03C00000);
        x.set(14, STACK);
        x.run(1);
        taken(x, "HALT of a user", 16, CODE, 0x03C00000);
        due("STATUS: PRV 3", x.register(16), 0x04DF0000L);
        int[][] unfit = {{0xD0, 0x51, 0x05}, {0xD0, 0x51, 0x8F}, {0xDE, 0x51, 0x52}, {0xD0, 0x5F, 0x52}, {0xD0, 0x6F, 0x52},
            {0xD0, 0x7F, 0x52}, {0x7D, 0x5E, 0x50}, {0x7C, 0x5E}, {0xD0, 0x4F, 0x61, 0x52}, {0xD0, 0x41, 0x41, 0x52},
            {0xD0, 0x41, 0x05, 0x52}, {0xD0, 0x41, 0x8F, 0x52}, {0xD0, 0x41, 0x51, 0x52}, {0x9E, 0x8F, 0x00}, {0x94, 0x3F},
            {0xD6, 0x8F}, {0xE0, 0x01, 0x01}, {0xE0, 0x01, 0x8F}, {0xE0, 0x01, 0x5F}};
        for (int[] u : unfit) {
            x = made(u);
            x.run(1);
            taken(x, "ADDRESSING FAULT " + Integer.toHexString(u[0]) + " " + Integer.toHexString(u[1]), 28, CODE, 0);
        }
    }

    private static void operands() {
        part = "operands";
        RingComputer x = made(code(0xD0, 0x3F, 0x51, 0x90, 0x82, 0x53, 0xB0, 0x72, 0x53, 0xD0, 0x92, 0x54, 0xD0, 0xA2, 0xFC, 0x55,
            0xD0, 0xB2, 0xF8, 0x56, 0xD0, 0x42, 0x9F, 0, 0x10, 0, 0, 0x57, 0xD0, 0xEF, 0xFA, 0xFF, 0xFF, 0xFF, 0x58));
        longs(x, DATA, 0x11223344, 0x55667788, DATA, DATA + 4);
        x.run(1);
        due("literal", x.register(1), 63);
        x.set(2, DATA);
        x.set(3, -1);
        x.run(1);
        due("B at (R2)+", x.register(3), 0xFFFFFF44L);
        due("R2", x.register(2), DATA + 1);
        x.set(2, DATA + 2);
        x.run(1);
        due("W at -(R2)", x.register(3), 0xFFFF3344L);
        due("R2", x.register(2), DATA);
        x.set(2, DATA + 12);
        x.run(1);
        due("@(R2)+", x.register(4), 0x55667788);
        due("R2", x.register(2), DATA + 16);
        x.set(2, DATA + 8);
        x.run(1);
        due("B displacement", x.register(5), 0x55667788);
        x.set(2, DATA + 16);
        x.run(1);
        due("@B displacement", x.register(6), 0x11223344);
        x.set(2, 1);
        x.run(1);
        due("indexed absolute", x.register(7), 0x55667788);
        x.run(1);
        due("relative to PC behind the bytes", x.register(8), 0xFFFAEFD0L);
        x = made(0xD0, 0x41, 0x81, 0x52, 0x00);
        longs(x, DATA, 1, 2, 3);
        x.set(1, DATA);
        x.run(1);
        due("the index is as it is behind the base's changes", x.state(3), 4);
        x = made(0x50, 0x3F, 0x51, 0x70, 0x00, 0x52, 0x00);
        x.run(2);
        due("F literal 63: 120", x.register(1), 0x43F0);
        due("D literal 0: 1/2", x.register(2), 0x4000);
        due("D's other half", x.register(3), 0);
        x = made(0xD0, 0x81, 0x51, 0x00);
        longs(x, DATA, 77);
        x.set(1, DATA);
        x.run(1);
        due("the result counts", x.register(1), 77);
    }

    private static void exceptions() {
        part = "exceptions";
        RingComputer x = made(0x01);
        longs(x, VECTORS + 44, HANDLER);
        bytes(x, CODE, 0x03);
        x.set(16, 0x000500A0);
        x.run(1);
        taken(x, "on the kernel's stack", 44, CODE, 0x000500A0);
        due("SP", x.register(14), STACK - 8);
        due("IPL stays", x.register(16), 0x00050000);
        x.set(16, 0x04050000);
        x.write(4, INTERRUPT_STACK);
        x.set(15, CODE);
        x.run(1);
        due("on the interrupt stack already", x.register(14), INTERRUPT_STACK - 8);
        due("IPL 31", x.register(16), FIRST_STATUS);
        longs(x, VECTORS + 44, HANDLER | 2);
        x.set(15, CODE);
        x.run(1);
        due("HALTS", x.state(0), 2);
        due("none taken", x.state(2), 2);
        due("PC", x.register(15), CODE);
        x = made(0x03);
        longs(x, VECTORS + 44, HANDLER);
        longs(x, VECTORS + 8, HANDLER + 16);
        x.set(14, 3);
        x.run(1);
        taken(x, "KERNEL STACK NOT VALID", 8, CODE, 0);
        due("handler", x.register(15), HANDLER + 16);
        due("STATUS", x.register(16), FIRST_STATUS);
        due("the kernel's SP stays", x.special(0), 3);
        due("one taken", x.state(2), 1);
        x = made(0x03);
        longs(x, VECTORS + 44, HANDLER);
        x.set(14, 3);
        x.write(4, 3);
        x.run(1);
        due("that fails, too", x.state(0), 2);
        due("none taken", x.state(2), 0);
        x = made(code(0xD5, at(-4)));
        longs(x, VECTORS + 4, HANDLER);
        x.set(14, 3);
        x.run(1);
        due("a machine check that can't be pushed", x.state(0), 2);
        x = made(0x03);
        x.write(17, 31 * 512 + 512);
        x.run(1);
        due("no vector", x.state(0), 2);
    }

    private static void tracing() {
        part = "trace";
        RingComputer x = made(0xB8, 0x10, 0x01, 0x01, 0x03);
        x.run(1);
        due("T", x.register(16), 0x10);
        x.run(1);
        due("TP", x.register(16), 0x40000010);
        x.run(1);
        taken(x, "TRACE", 40, CODE + 3, 0x10);
        x = made(0x03);
        x.set(16, 0x10);
        x.run(1);
        taken(x, "a fault's TP is 0", 44, CODE, 0x10);
        x = made(0xC6, 0x00, 0x51);
        x.set(16, 0x10);
        x.run(1);
        taken(x, "a trap's TP is as it is", 52, CODE + 3, 0x40000016L, 2);
        x = made(0x01, 0x01);
        x.set(16, 0x10);
        x.run(1);
        x.write(20, 7);
        x.run(1);
        taken(x, "an interrupt comes first", 156, CODE + 1, 0x40000010);
    }

    private static void branches() {
        part = "branches";
        for (int opcode = 0x12; opcode < 0x20; opcode++) {
            if (opcode == 0x16 || opcode == 0x17) {
                continue;
            }
            for (int flags = 0; flags < 16; flags++) {
                boolean n = (flags & 8) != 0;
                boolean z = (flags & 4) != 0;
                boolean v = (flags & 2) != 0;
                boolean c = (flags & 1) != 0;
                boolean[] go = {!z, z, !n && !z, n || z, false, false, !n, n, !c && !z, c || z, !v, v, !c, c};
                RingComputer x = made(opcode, 0xFE);
                x.set(16, flags);
                x.run(1);
                due("branch " + Integer.toHexString(opcode), x.register(15), go[opcode - 0x12] ? CODE : CODE + 2);
                due("flags stay", x.register(16), flags);
            }
        }
        RingComputer x = made(0x10, 0x10, 0x00);
        bytes(x, CODE + 0x12, 0x31, 0x00, 0x01);
        bytes(x, CODE + 0x115, 0x16, 0xA1, 0x02, 0x05);
        x.set(1, CODE + 0x200);
        bytes(x, CODE + 0x202, 0x05);
        x.run(2);
        due("BSB, BRW", x.register(15), CODE + 0x115);
        due("pushed", x.memory(STACK - 4, 4), CODE + 2);
        x.run(3);
        due("JSB, RSB, RSB", x.register(15), CODE + 2);
        due("SP", x.register(14), STACK);
        x = made(0xCF, 0x51, 0x02, 0x01, 0x06, 0x00, 0x08, 0x00, 0x03);
        x.set(1, 3);
        x.run(1);
        due("CASE", x.register(15), CODE + 4 + 8);
        due("flags", x.register(16), 4);
        x.set(15, CODE);
        x.set(1, 5);
        x.run(1);
        due("CASE beyond", x.register(15), CODE + 4 + 4);
        due("flags", x.register(16), 0);
        x.set(15, CODE);
        x.set(1, 1);
        x.run(1);
        due("CASE below", x.register(15), CODE + 8);
        due("flags: signed less, not unsigned", x.register(16), 8);
        x = made(0xF1, 0x05, 0x02, 0x51, 0x10, 0x00, 0x00);
        x.set(1, 3);
        x.run(1);
        due("ACBL", x.register(15), CODE + 6 + 16);
        x.set(15, CODE);
        x.run(1);
        due("ACBL beyond", x.register(15), CODE + 6);
        due("index", x.register(1), 7);
        x = made(0x9D, 0x02, 0x8F, 0xFF, 0x51, 0x10, 0x00, 0x00);
        x.set(1, 0x103);
        x.run(1);
        due("ACBB downwards, at the limit", x.register(15), CODE + 7 + 16);
        due("index", x.register(1), 0x102);
        x.set(15, CODE);
        x.run(1);
        due("ACBB below the limit", x.register(15), CODE + 7);
    }

    private static void fields() {
        part = "fields";
        RingComputer x = made(0xEE, 0x04, 0x08, 0x51, 0x52, 0xEF, 0x1C, 0x08, 0x51, 0x53, 0xF0, 0x3F, 0x1E, 0x04, 0x51,
            0xEA, 0x00, 0x20, 0x54, 0x55, 0xEB, 0x00, 0x00, 0x54, 0x55, 0xED, 0x00, 0x04, 0x51, 0x10);
        x.set(1, 0xF0000F80);
        x.set(2, 0x12);
        x.run(1);
        due("EXTV", x.register(2), 0xFFFFFFF8L);
        x.set(2, 0x12);
        x.run(1);
        due("EXTZV over two registers", x.register(3), 0x2F);
        x.run(1);
        due("INSV", x.register(1), 0xF0000F80L);
        due("INSV", x.register(2), 0x13);
        x.run(1);
        due("FFS finds none", x.register(5), 32);
        due("Z", x.register(16), 4);
        x.run(1);
        due("FFC of size 0", x.register(5), 0);
        due("Z", x.register(16), 4);
        x.run(1);
        due("CMPZV", x.register(16), 9);
        x = made(code(0xEF, 0x51, 0x20, 0x62, 0x53, 0xE2, 0x51, 0x62, 0x02, 0x01, 0x01, 0x00));
        x.set(1, -3);
        x.set(2, DATA);
        longs(x, DATA - 4, 0xA0000000, 0x12345678);
        x.run(1);
        due("EXTZV from below the base", x.register(3), 0x91A2B3C5L);
        x.run(1);
        due("BBSS goes", x.register(15), CODE + 11);
        x.set(15, CODE + 5);
        x.set(1, -2);
        x.run(1);
        due("BBSS does not", x.register(15), CODE + 9);
        due("but sets it", x.memory(DATA - 1, 1), 0xE0);
        int[][] refused = {{0xEE, 0x00, 0x21, 0x51, 0x52}, {0xEE, 0x20, 0x01, 0x51, 0x52}, {0xEE, 0x1F, 0x02, 0x5E, 0x52},
            {0xE0, 0x20, 0x51, 0x00}};
        for (int[] r : refused) {
            x = made(r);
            x.run(1);
            due("RESERVED OPERAND", x.state(3), 24);
        }
        x = made(0xEF, 0x08, 0x20, 0xA1, 0xFF, 0x52, 0xEF, 0x09, 0x20, 0xA1, 0xFF, 0x52);
        x.set(1, 32 * 512 - 4);
        longs(x, 32 * 512 - 4, 0x89ABCDEF);
        x.run(1);
        due("the last bytes of memory", x.register(2), 0x89ABCDEFL);
        x.run(1);
        taken(x, "one bit more", 4, CODE + 6, 8, 32 * 512);
        x = made(0xEE, 0x20, 0x00, 0x51, 0x52, 0x00);
        x.run(1);
        due("of size 0 nothing is looked at", x.state(2), 0);
    }

    private static void queues() {
        part = "queues";
        int h = DATA;
        int a = DATA + 0x20;
        int b = DATA + 0x40;
        RingComputer x = made(code(0x0E, at(a), at(h), 0x0E, at(b), at(h), 0x0F, at(a), 0x52, 0x0F, at(b), 0x52, 0x0F, at(h), 0x53));
        longs(x, h, h, h);
        x.run(1);
        due("empty before", x.register(16), 4);
        due("forward", x.memory(h, 8), (long) a << 32 | a);
        x.run(1);
        due("flags", x.register(16) & 4, 0);
        due("header", x.memory(h, 8), (long) a << 32 | b);
        due("b", x.memory(b, 8), (long) h << 32 | a);
        due("a", x.memory(a, 8), (long) b << 32 | h);
        x.run(1);
        due("REMQUE", x.register(2), a);
        due("header", x.memory(h, 8), (long) b << 32 | b);
        x.run(1);
        due("Z: empty now", x.register(16), 4);
        x.run(1);
        due("V: none was there", x.register(16), 6);
        due("the operand is put", x.register(3), h);
        x = made(code(0x5C, at(a), at(h), 0x5D, at(b), at(h), 0x5E, at(h), 0x52, 0x5F, at(h), 0x53, 0x5F, at(h), 0x54));
        x.run(1);
        due("alone", x.register(16), 4);
        due("header", x.memory(h, 8), 0x0000002000000020L);
        due("a", x.memory(a, 8), 0xFFFFFFE0FFFFFFE0L);
        x.run(1);
        due("not alone", x.register(16), 0);
        due("header", x.memory(h, 8), 0x0000004000000020L);
        due("a", x.memory(a, 8), 0xFFFFFFE000000020L);
        due("b", x.memory(b, 8), 0xFFFFFFE0FFFFFFC0L);
        x.run(1);
        due("REMQHI", x.register(2), a);
        due("not empty", x.register(16), 0);
        x.run(1);
        due("REMQTI", x.register(3), b);
        due("empty then", x.register(16), 4);
        due("header", x.memory(h, 8), 0);
        x.set(4, 99);
        x.run(1);
        due("it was", x.register(16), 6);
        due("nothing put", x.register(4), 99);
        int[][] refused = {code(0x5C, at(a + 4), at(h)), code(0x5D, at(a), at(h + 1)), code(0x5E, at(h), 0x52)};
        for (int[] r : refused) {
            x = made(r);
            longs(x, h, r[0] == 0x5E ? 4 : 0, 0);
            x.run(1);
            due("RESERVED OPERAND", x.state(3), 24);
        }
        for (int opcode = 0x5E; opcode <= 0x5F; opcode++) {
            x = made(code(opcode, at(h), 0x52));
            longs(x, h, 0x20, 0x20);
            longs(x, a, opcode == 0x5E ? -0x1C : -0x20, opcode == 0x5E ? -0x20 : -0x1C);
            x.run(1);
            due("a link of the entry's that has low bits", x.state(3), 24);
        }
    }

    private static void calls() {
        part = "calls";
        RingComputer x = made(code(0xFA, at(DATA + 0x40), at(DATA), 0x00));
        bytes(x, DATA, 0x03, 0xC8, 0x01, 0x04);
        x.set(16, 0x7F);
        x.set(14, STACK - 2);
        x.set(0, 10);
        x.set(1, 11);
        x.set(11, 21);
        x.set(12, 12);
        x.set(13, 13);
        x.run(1);
        long sp = (STACK - 2 & ~3) - 32;
        due("SP", x.register(14), sp);
        due("FP", x.register(13), sp);
        due("AP", x.register(12), DATA + 0x40);
        due("PC", x.register(15), DATA + 2);
        due("STATUS: DV, IV, T", x.register(16) & 0xFF, 0xB0);
        due("0", x.memory((int) sp, 4), 0);
        due("frame", x.memory((int) sp + 4, 4), 2L << 30 | 0x803 << 16 | 0x70);
        due("AP, FP", x.memory((int) sp + 8, 8), 13L << 32 | 12);
        due("PC", x.memory((int) sp + 16, 4), CODE + 11);
        due("R0, R1", x.memory((int) sp + 20, 8), 11L << 32 | 10);
        due("R11", x.memory((int) sp + 28, 4), 21);
        x.set(16, 0);
        x.set(14, 0);
        x.set(0, 0);
        x.set(12, 0);
        x.run(2);
        due("back", x.register(15), CODE + 11);
        due("SP", x.register(14), STACK - 2);
        due("R0", x.register(0), 10);
        due("AP", x.register(12), 12);
        due("FP", x.register(13), 13);
        due("STATUS", x.register(16) & 0xFF, 0x70);
        x = made(code(0xFB, 0x02, at(DATA)));
        bytes(x, DATA, 0x00, 0x10);
        x.run(1);
        due("mask bit 12", x.state(3), 24);
        x = made(0x04);
        x.set(13, DATA);
        longs(x, DATA, 0, 0x100);
        x.run(1);
        due("RET: bits 8 .. 15", x.state(3), 24);
        x = made(code(0xBB, 0x8F, 0x03, 0x40, 0xBA, 0x8F, 0x0C, 0x40));
        x.set(0, 5);
        x.set(1, 6);
        x.run(1);
        due("SP of before, R1, R0", x.memory(STACK - 12, 8), 6L << 32 | 5);
        due("SP of before", x.memory(STACK - 4, 4), STACK);
        x.run(1);
        due("R2", x.register(2), 5);
        due("R3", x.register(3), 6);
        due("SP", x.register(14), STACK);
    }

    /** Pushes that are each an access: what was pushed ahead of one that fails stays in memory, registers do not. */
    private static void pushes() {
        part = "pushes";
        RingComputer x = made(code(0xFB, 0x07, at(DATA)));
        bytes(x, DATA, 0x00, 0x10);
        x.run(1);
        taken(x, "a mask that is refused", 24, CODE, 0);
        due("the count stays", x.memory(STACK - 4, 4), 7);
        due("SP does not", x.special(0), STACK);
        x = made(code(0xFB, 0x01, at(DATA)));
        x.set(14, DATA + 4);
        bytes(x, DATA, 0x00, 0x10);
        x.run(1);
        due("the count is the mask", x.register(14), DATA - 24);
        due("R0's bit is told", x.memory(DATA - 20, 4), 0x20010000);
        due("the list", x.register(12), DATA);
        x = made(code(0xFA, at(DATA), at(DATA + 8)));
        bytes(x, DATA + 8, 0x03, 0x00);
        x.set(14, 13);
        x.set(0, 0x11);
        x.set(1, 0x22);
        x.set(12, 0x33);
        x.set(13, 0x44);
        x.run(1);
        taken(x, "CALLG's pushes", 4, CODE, 0, -4);
        due("R1", x.memory(8, 4), 0x22);
        due("R0", x.memory(4, 4), 0x11);
        due("PC", x.memory(0, 4), CODE + 11);
        due("registers", x.register(12) << 8 | x.register(13), 0x3344);
        due("SP", x.special(0), 13);
        x = made(0xBB, 0x8F, 0x01, 0x40);
        x.set(14, 7);
        x.set(0, 5);
        x.run(1);
        taken(x, "PUSHR's second push", 4, CODE, 0, -1);
        due("SP of before", x.memory(3, 4), 7);
        x = made(0x06);
        x.write(16, DATA);
        longs(x, DATA, 4, 0, 0, 0);
        longs(x, DATA + 72, 0x4321, 0x03C00000, 88, 99, 1010, 1111);
        x.set(5, 55);
        x.run(1);
        taken(x, "LDPCTX's second push", 4, CODE, 0, -4);
        due("STATUS was pushed", x.memory(0, 4), 0x03C00000);
        due("8 stays taken", x.special(8), 88);
        due("11 stays taken", x.special(11), 1111);
        due("registers do not", x.register(5), 55);
        due("nor does SP, which is one", x.special(0), STACK);
        x = made(0x06);
        x.set(16, 0x041F0000);
        x.set(14, INTERRUPT_STACK);
        x.write(16, 0);
        longs(x, 0, 76, 0, 0, 0);
        longs(x, 72, 0x4321, 0x7777);
        x.run(1);
        due("PC is taken ahead of STATUS's push", x.memory(68, 8), 0x777700004321L);
    }

    private static void strings() {
        part = "strings";
        RingComputer x = made(code(0x2C, 0x03, at(DATA), 0x2A, 0x05, at(DATA + 16), 0x00));
        text(x, DATA, "abcdef");
        x.run(1);
        sameText("MOVC5", textAt(x, DATA + 16, 6), "abc**\0");
        due("flags: less, below", x.register(16), 9);
        due("R0", x.register(0), 0);
        due("R1", x.register(1), DATA + 3);
        due("R2", x.register(2), 0);
        due("R3", x.register(3), DATA + 21);
        x = made(code(0x28, 0x8F, 100, 0, at(DATA), at(DATA + 1), 0x00));
        bytes(x, DATA, 7);
        x.set(16, 3);
        x.run(1);
        due("a hundred rounds", x.register(16), 0x08000003);
        due("PC", x.register(15), CODE);
        due("R2", x.register(2), 14 << 16);
        due("bytes go on from the first", x.memory(DATA + 100, 1), 7);
        due("not done", x.state(7), 0);
        x.run(1);
        due("the round that ends", x.register(16), 4);
        due("PC", x.register(15), CODE + 14);
        due("done", x.state(7), 1);
        x = made(0x01);
        x.set(16, 0x08000000);
        x.run(1);
        taken(x, "FPD and no string", 16, CODE, 0x08000000);
        x = made(code(0x28, 0x8F, 200, 0, at(DATA), at(32 * 512 - 10), 0x00));
        x.run(1);
        taken(x, "a round fails", 4, CODE, 0x08000000, 32 * 512);
        due("R0", x.register(0), 190);
        due("R2", x.register(2), 14 << 16 | 190);
        due("R3", x.register(3), 32 * 512);
        due("R4", x.register(4), 0x400);
        x = made(code(0x2D, 0x02, at(DATA), 0x20, 0x03, at(DATA + 8), 0x3A, 0x23, 0x04, at(DATA), 0x3B, 0x20, 0x02, at(DATA + 3)));
        text(x, DATA, "xy#  ");
        text(x, DATA + 8, "xy\u00A0");
        x.run(1);
        due("CMPC5: fill against A0", x.register(16), 1);
        due("R0", x.register(0), 0);
        due("R2", x.register(2), 1);
        due("R3", x.register(3), DATA + 10);
        x.run(1);
        due("LOCC", x.register(0), 2);
        due("R1", x.register(1), DATA + 2);
        due("found", x.register(16), 0);
        x.run(1);
        due("SKPC", x.register(0), 0);
        due("none", x.register(16), 4);
        matching();
    }

    private static void matching() {
        RingComputer x = made(code(0x39, 0x02, at(DATA), 0x06, at(DATA + 8), 0x39, 0x02, at(DATA), 0x03, at(DATA + 8),
            0x0B, at(DATA + 64), 0x50, 0x09, at(DATA + 32)));
        text(x, DATA, "ab");
        text(x, DATA + 8, "aabaab");
        text(x, DATA + 32, "123456789");
        x.run(1);
        due("MATCHC", x.register(16), 4);
        due("R0", x.register(0), 2);
        due("R2", x.register(2), 3);
        due("R3", x.register(3), DATA + 8 + 3);
        bytes(x, DATA + 10, 'c');
        x.run(1);
        due("no match", x.register(16), 0);
        due("R2", x.register(2), 0);
        due("R3", x.register(3), DATA + 8 + 3);
        int[] table = new int[16];
        for (int i = 0; i < 16; i++) {
            int v = i;
            for (int k = 0; k < 4; k++) {
                v = (v & 1) != 0 ? v >>> 1 ^ 0xEDB88320 : v >>> 1;
            }
            table[i] = v;
        }
        longs(x, DATA + 64, table);
        x.set(0, -1);
        x.run(1);
        due("CRC 32", x.register(0) ^ 0xFFFFFFFFL, 0xCBF43926L);
        due("R1", x.register(1), 0);
        due("R3", x.register(3), DATA + 41);
        int[] up = new int[256];
        for (int i = 0; i < 256; i++) {
            up[i] = i >= 'a' && i <= 'z' ? i - 32 : i;
        }
        x = made(code(0x2E, 0x04, at(DATA), 0x2E, at(DATA + 0x100), 0x06, at(DATA + 16),
            0x2F, 0x04, at(DATA), 0x2D, at(DATA + 0x100), 0x06, at(DATA + 32),
            0x2A, 0x04, at(DATA), at(DATA + 0x100), 0x04, 0x2B, 0x04, at(DATA), at(DATA + 0x100), 0x01));
        bytes(x, DATA + 0x100, up);
        text(x, DATA, "aB-c");
        x.run(1);
        sameText("MOVTC", textAt(x, DATA + 16, 6), "AB-C..");
        x.run(1);
        sameText("MOVTUC", textAt(x, DATA + 32, 6), "AB\0\0\0\0");
        due("V: the escape", x.register(16), 11);
        due("R0", x.register(0), 2);
        due("R2", x.register(2), 4);
        due("R5", x.register(5), 0);
        x.run(1);
        due("SCANC finds - (2D and 4)", x.register(0), 2);
        due("R3", x.register(3), DATA + 0x100);
        x.run(1);
        due("SPANC ends at B (42 and 1)", x.register(0), 3);
    }

    private static void edit() {
        part = "EDITPC";
        int[] pattern = {0x05, '+', 0xA4, 0x07, ',', 0x93, 0x03, 0x00};
        editOne(new int[] {0x00, 0x01, 0x23, 0x4C}, 7, pattern, "   +1,234+", 1);
        editOne(new int[] {0x00, 0x01, 0x23, 0x4D}, 7, pattern, "   -1,234-", 9);
        editOne(new int[] {0x00, 0x00, 0x00, 0x0D}, 7, pattern, "        +", 4);
        editOne(new int[] {0x00, 0x0C}, 3, new int[] {0x04, '*', 0x91, 0x02, 0x92, 0x08, 0x02, 0x00}, "***", 5);
        editOne(new int[] {0x0C}, 1, new int[] {0x83, 0x91, 0x00}, "    ", 4);
        editOne(new int[] {0x0C}, 0, new int[] {0x00}, "", 4);
        int[][] refused = {{0x00}, {0x92, 0x00}, {0x90, 0x91, 0x00}, {0x80, 0x91, 0x00}, {0xA0, 0x91, 0x00}, {0x09, 0x91, 0x00},
            {0x08, 0x01, 0x91, 0x00}, {0xB1, 0x00}, {0x91, 0x92, 0x00}};
        for (int[] p : refused) {
            RingComputer x = made(code(0x38, 0x01, at(DATA), at(DATA + 32), at(DATA + 64)));
            bytes(x, DATA, 0x5C);
            bytes(x, DATA + 32, p);
            x.run(1);
            due("RESERVED OPERAND " + p[0], x.state(3), 24);
        }
        int[] long199 = new int[200];
        java.util.Arrays.fill(long199, 0x01);
        long199[198] = 0x91;
        long199[199] = 0;
        RingComputer x = made(code(0x38, 0x01, at(DATA), at(DATA + 32), at(DATA + 16)));
        bytes(x, DATA, 0x5C);
        bytes(x, DATA + 32, long199);
        x.run(1);
        due("the 200th byte is 0", x.state(7), 1);
        long199[199] = 1;
        x.set(15, CODE);
        bytes(x, DATA + 32, long199);
        x.run(1);
        due("the 200th byte is not", x.state(3), 24);
        int[] fills = {0x8F, 0x8F, 0x8F, 0x8F, 0x8F, 0x8F, 0x8F, 0x8F, 0x8F, 0x8F, 0x8F, 0x8F, 0x8F, 0x84, 0x91, 0x00};
        x = made(code(0x38, 0x01, at(DATA), at(DATA + 32), at(DATA + 64)));
        bytes(x, DATA, 0x5C);
        bytes(x, DATA + 32, fills);
        x.run(1);
        due("200 characters", x.register(5), DATA + 264);
        fills[13] = 0x85;
        bytes(x, DATA + 32, fills);
        x.set(15, CODE);
        x.run(1);
        due("201 characters", x.state(3), 24);
    }

    private static void editOne(int[] decimal, int digits, int[] pattern, String want, int flags) {
        RingComputer x = made(code(0x38, digits, at(DATA), at(DATA + 32), at(DATA + 64)));
        bytes(x, DATA, decimal);
        bytes(x, DATA + 32, pattern);
        x.set(2, 9);
        x.set(16, 2);
        x.run(1);
        sameText("EDITPC", textAt(x, DATA + 64, want.length()), want);
        due("flags of '" + want + "'", x.register(16), flags);
        due("R1", x.register(1), DATA);
        due("R2", x.register(2), 0);
        due("R3", x.register(3), DATA + 32);
        due("R5", x.register(5), DATA + 64 + want.length());
    }

    private static void decimalEdges() {
        part = "decimals";
        RingComputer x = made(code(0x20, 0x8F, 32, 0, at(DATA), 0x03, at(DATA + 8)));
        x.run(1);
        due("32 digits", x.state(3), 24);
        x = made(code(0x20, 0x03, at(DATA), 0x03, at(DATA + 8), 0x00));
        bytes(x, DATA, 0x12, 0x3C);
        bytes(x, DATA + 8, 0x0A, 0x3C);
        x.run(1);
        due("no digit", x.state(3), 24);
        bytes(x, DATA + 8, 0x00, 0x33);
        x.set(15, CODE);
        x.run(1);
        due("no sign", x.memory((int) x.register(14), 4), CODE);
        bytes(x, DATA + 8, 0x90, 0x0F);
        x.set(16, 0x80);
        x.set(14, STACK);
        x.set(15, CODE);
        x.run(1);
        due("decimal overflow", x.memory((int) x.register(14), 4), 6);
        due("the low digits", x.memory(DATA + 8, 2), 0x3C02);
        x = made(code(0x34, 0x02, at(DATA), at(DATA + 8), 0x00));
        bytes(x, DATA, 0xF0, 0x0B);
        bytes(x, DATA + 8, 0xFF, 0xFF);
        x.run(1);
        due("a 0 below 0 is plus, the first half 0", x.memory(DATA + 8, 2), 0x0C00);
        due("flags", x.register(16), 4);
        int[][] counts = {code(0x21, 0, at(DATA), 0, at(DATA), 0x20, at(DATA)), code(0x25, 0, at(DATA), 0x20, at(DATA), 0, at(DATA)),
            code(0x27, 0, at(DATA), 0, at(DATA), 0x20, at(DATA)), code(0x34, 0x20, at(DATA), at(DATA)),
            code(0x35, 0x20, at(DATA), at(DATA)), code(0x37, 0, at(DATA), 0x20, at(DATA)), code(0x36, 0x20, at(DATA), 0x51),
            code(0xF9, 0, 0x20, at(DATA)), code(0xF8, 0, 0, at(DATA), 0, 0x20, at(DATA)), code(0xF8, 0, 0, at(DATA), 10, 0, at(DATA)),
            code(0x08, 0, at(DATA), 0x20, at(DATA)), code(0x08, 0x20, at(DATA), 0, at(DATA)), code(0x09, 0, at(DATA + 1), 0x20, at(DATA)),
            code(0x09, 0x20, at(DATA + 1), 0, at(DATA)), code(0x24, 0, at(DATA), at(DATA), 0x20, at(DATA)),
            code(0x26, 0, at(DATA), at(DATA), 0x20, at(DATA)), code(0x26, 0x20, at(DATA), at(DATA), 0, at(DATA)),
            code(0x38, 0x20, at(DATA), at(DATA), at(DATA))};
        for (int[] one : counts) {
            x = made(one);
            bytes(x, DATA, 0x0C, '+');
            x.run(1);
            due("a count above 31, or a round above 9: " + Integer.toHexString(one[0]), x.state(3), 24);
            due("nothing is written", x.memory(DATA, 1), 0x0C);
        }
        x = made(code(0x09, 0x02, at(DATA), 0x03, at(DATA + 8), 0x00));
        text(x, DATA, "*12");
        x.run(1);
        due("no sign", x.state(3), 24);
        text(x, DATA, " 12");
        x.set(16, 0);
        x.set(14, STACK);
        x.set(15, CODE);
        x.run(1);
        due("blank", x.memory(DATA + 8, 2), 0x2C01);
    }

    private static void floatEdges() {
        part = "floats";
        RingComputer x = made(0x53, 0x51, 0x50, 0x51, 0x52);
        x.set(1, 0x8000);
        x.run(1);
        due("RESERVED OPERAND", x.state(3), 24);
        x = made(0x50, 0x51, 0x52, 0x00);
        x.set(1, 0x8000);
        x.run(1);
        due("not in MOV", x.register(2), 0x8000);
        due("flags", x.register(16), 12);
        x = made(0x40, 0x51, 0x6F);
        x.set(1, 0x8000);
        x.run(1);
        due("as the operand is read", x.state(3), 24);
        x = made(0x46, 0x51, 0x52);
        x.set(2, 0x4080);
        x.run(1);
        taken(x, "by 0", 52, CODE, 0, 9);
        x = made(0x44, 0x51, 0x51);
        x.set(1, 0x7F80);
        x.run(1);
        taken(x, "overflow", 52, CODE, 0, 8);
        x = made(0x44, 0x51, 0x51, 0x00);
        x.set(1, 0x0080);
        x.run(1);
        due("underflow", x.register(1), 0);
        due("Z", x.register(16), 4);
        x = made(0x44, 0x51, 0x51);
        x.set(1, 0x0080);
        x.set(16, 0x40);
        x.run(1);
        taken(x, "underflow with FU", 52, CODE, 0x40, 10);
        x = made(0x41, 0x08, 0x0C, 0x51, 0x4B, 0x51, 0x52, 0x48, 0x51, 0x53, 0x00);
        x.run(3);
        due("1 + 3/2", x.register(1), 0x4120);
        due("rounded away from 0", x.register(2), 3);
        due("towards 0", x.register(3), 2);
    }

    private static void modes() {
        part = "modes";
        RingComputer x = made(0xBD, 0x8F, 0xFE, 0xFF);
        longs(x, VECTORS + 68, HANDLER | 3);
        x.write(1, DATA + 64);
        x.write(3, DATA + 128);
        x.set(16, 0x03C00001);
        x.run(1);
        taken(x, "CHME", 68, CODE + 4, 0x03C00001, -2);
        due("handler", x.register(15), HANDLER);
        due("STATUS", x.register(16), 0x01C00000);
        due("SP", x.register(14), DATA + 52);
        due("the user's", x.special(3), DATA + 128);
        due("done", x.state(7), 1);
        x = made(0xBF, 0x05);
        x.set(16, 0x01400000);
        x.set(14, DATA + 64);
        x.run(1);
        taken(x, "CHMU stays in a lower mode", 76, CODE + 2, 0x01400000, 5);
        due("STATUS", x.register(16), 0x01400000);
        x = made(0xBC, 0x05);
        x.set(16, 0x04000000);
        x.run(1);
        due("HALTS on the interrupt stack", x.state(0), 2);
        due("at its end", x.state(7), 1);
        due("PC", x.register(15), CODE + 2);
        x = made(0x02);
        longs(x, STACK, 0x1234, 0x03C00002);
        x.write(3, 777);
        x.write(19, 3);
        x.run(1);
        due("REI: PC", x.register(15), 0x1234);
        due("STATUS", x.register(16), 0x03C00002);
        due("SP", x.register(14), 777);
        due("the kernel's", x.special(0), STACK + 8);
        due("bit 2 is asked", x.special(21), 4);
        long[][] refused = {{0x02C00000, 0x01400000}, {0x02400000, 0}, {0x00000100, 0}, {0x04000000, 0}, {0x03C10000, 0},
            {0x00060000, 0x00050000}, {0x07C00000, 0x04000000}, {0x00200000, 0}};
        for (long[] r : refused) {
            x = made(0x02);
            x.set(16, (int) r[1]);
            x.set(14, STACK);
            longs(x, STACK, 0x1234, (int) (r[0] == 0x02C00000 ? 0x00C00000 : r[0]));
            x.run(1);
            due("REI refuses " + Long.toHexString(r[0]), x.state(3), 24);
        }
    }

    private static void processes() {
        part = "processes";
        RingComputer x = made(0x07, 0x06);
        x.write(16, DATA);
        longs(x, STACK, 0x4321, 0x03C00000);
        for (int n = 0; n < 14; n++) {
            x.set(n, 100 + n);
        }
        for (int k = 1; k < 4; k++) {
            x.write(k, 200 + k);
        }
        longs(x, DATA + 80, 8, 0xFFC00009 & 0x03FFFFFF, 10, -1);
        x.run(1);
        due("the kernel's", x.memory(DATA, 4), STACK + 8);
        due("the user's", x.memory(DATA + 12, 4), 203);
        due("R0", x.memory(DATA + 16, 4), 100);
        due("R13", x.memory(DATA + 68, 4), 113);
        due("PC and STATUS", x.memory(DATA + 72, 8), 0x03C0000000004321L);
        due("8 is not saved", x.memory(DATA + 80, 4), 8);
        due("on the interrupt stack", x.register(16), 0x04010000);
        due("SP", x.register(14), INTERRUPT_STACK);
        longs(x, DATA, STACK + 64);
        for (int n = 0; n < 14; n++) {
            x.set(n, 0);
        }
        x.run(1);
        due("R5", x.register(5), 105);
        due("SP", x.register(14), STACK + 56);
        due("pushed", x.memory(STACK + 56, 8), 0x03C0000000004321L);
        due("IS 0", x.register(16), 0x00010000);
        due("interrupt stack's", x.special(4), INTERRUPT_STACK);
        due("8", x.special(8), 8);
        due("9: 22 bits", x.special(9), 9);
        due("ASTLVL", x.special(19), 3);
        due("11: 22 bits", x.special(11), 0x3FFFFF);
        x = made(0x07);
        x.write(16, 32 * 512 - 95);
        x.run(1);
        taken(x, "the block is not all there", 4, CODE, 0, 32 * 512);
        x = mapped(code(0x0C, 0x03, 0x8F, 1, 2, at(0x3FF), 0x0D, 0x00, 0x00, at(0x400), 0x00));
        longs(x, 0xC04, 0xA0000011, 0x70000012);
        x.set(16, 0x00000001);
        x.run(1);
        due("PROBER: valid or not does not matter", x.register(16), 1);
        x.run(1);
        due("PROBEW", x.register(16), 1);
        due("nothing of it is kept", x.kept(2, 0), 0);
        longs(x, 0xC08, 0x88000012);
        x.set(15, 0x80000000 | CODE);
        x.run(1);
        due("may not", x.register(16), 5);
    }

    private static void promises14to16() {
        part = "promises 14 to 16";
        RingComputer x = new RingComputer(8, 1);
        no("halt", x.halt());
        yes("go", x.go(100));
        due("goes on", x.state(0), 0);
        due("PC", x.register(15), 100);
        no("go again", x.go(200));
        due("PC stays", x.register(15), 100);
        no("proceed", x.proceed());
        yes("halt", x.halt());
        due("else", x.state(0), 3);
        yes("proceed", x.proceed());
        due("PC stays", x.register(15), 100);
        due("goes on", x.state(0), 0);
        x.run(1);
        due("HALT at 100", x.state(0), 1);
        no("halt", x.halt());
        due("by an instruction still", x.state(0), 1);
        yes("go", x.go(0xFFFF0000));
    }

    private static void promise17() {
        part = "promise 17";
        RingComputer x = mapped(0xD5, 0x9F, 0, 0, 0, 0x80, 0x00);
        tape(x, 1, 2, 3);
        x.stow(6, 3);
        tape(x, 4);
        x.stow(7, 1);
        x.write(27, 5);
        x.write(32, 64);
        x.write(35, 65);
        x.write(25, 9);
        x.write(24, 0x51);
        x.write(50, 0x41);
        x.write(20, 3);
        x.set(3, 9);
        no("it goes on", x.boot(6, 1, 0));
        x.run(1);
        x.key(66);
        x.halt();
        due("kept", x.state(6) > 0 ? 1 : 0, 1);
        no("below 1", x.boot(6, 0, 0));
        no("one of them is not there", x.boot(6, 3, 0));
        no("no such sector", x.boot(-1, 2, 0));
        no("no such sector", x.boot(8, 1, 0));
        no("not all in memory", x.boot(6, 2, 32 * 512 - 1023));
        no("below memory", x.boot(6, 1, -1));
        no("too many", x.boot(0, Integer.MAX_VALUE, 0));
        due("nothing changes", x.register(3), 9);
        yes("boot", x.boot(6, 2, 0x1234));
        due("goes on", x.state(0), 0);
        due("sectors", x.memory(0x1234, 4), 0x030201);
        due("one behind the other", x.memory(0x1434, 2), 4);
        due("PC", x.register(15), 0x1234);
        due("SP", x.register(14), 0x1234 + 1024);
        due("R3", x.register(3), 0);
        due("STATUS", x.register(16), FIRST_STATUS);
        int[] zero = {0, 1, 2, 3, 8, 9, 10, 11, 12, 13, 16, 17, 19, 21, 24, 26, 32, 48, 49, 56};
        for (int k : zero) {
            due("special " + k, x.special(k), 0);
        }
        due("27 stays", x.special(27), 6);
        due("33 stays", x.special(33), 66);
        due("34", x.special(34), 128);
        due("50", x.special(50), 128);
        due("no translation is kept", x.state(6), 0);
        due("typed bytes stay", x.typed(0), 65);
        due("steps stay", x.state(1), 1);
        x.halt();
        yes("one sector, at the end of memory", x.boot(7, 1, 31 * 512));
        due("SP behind it", x.register(14), 32 * 512);
        x.halt();
        yes("again", x.boot(6, 2, 0x1234));
        bytes(x, 0x1234, 1, 1, 1, 1, 1, 1, 1, 1, 1);
        x.write(18, 0);
        x.run(8);
        due("nothing requested, what they were at ends", x.state(2), 1);
        due("the step of before took one", x.state(3), 140);
    }

    private static void promises18and19() {
        part = "promises 18 and 19";
        RingComputer x = mapped(code(0xD6, 0x51, 0xD6, at(DATA), 0x11, 0xF6));
        no("nothing is kept", x.back(0));
        no("another", x.keep(2));
        no("another", x.keep(-1));
        no("another", x.back(2));
        tape(x, 1, 2);
        x.run(2);
        x.write(35, 70);
        x.key(71);
        yes("keep", x.keep(0));
        no("nothing is kept there", x.back(1));
        x.run(4);
        x.stow(0, 2);
        yes("keep", x.keep(1));
        due("memory", x.memory(24 * 512, 4), 2);
        due("R1", x.register(1), 2);
        tape(x, 3);
        x.halt();
        yes("back", x.back(0));
        due("R1", x.register(1), 1);
        due("memory", x.memory(24 * 512, 4), 1);
        due("disk", x.disk(0, 0), 0);
        due("goes on", x.state(0), 0);
        due("steps", x.state(1), 2);
        due("the tape is not kept", x.state(5), 20);
        due("not READY", x.special(34), 0);
        due("typed", x.typed(0), 70);
        due("key", x.special(33), 71);
        due("kept entries", x.kept(8, 1), DATA);
        x.run(3);
        due("READY in the third step", x.special(34), 128);
        yes("back", x.back(1));
        due("R1", x.register(1), 2);
        due("disk", x.disk(0, 1), 2);
        yes("again", x.back(0));
        due("R1", x.register(1), 1);
    }

    private static void promise20() {
        part = "promise 20";
        RingComputer x = new RingComputer(8, 1);
        tape(x, 0xFF);
        x.stow(0, 1);
        due("byte", x.disk(0, 0), 255);
        due("byte", x.disk(0, 511), 0);
        due("above", x.disk(0, 512), -1);
        due("below", x.disk(0, -1), -1);
        due("sector", x.disk(1, 0), -1);
        due("sector", x.disk(-1, 0), -1);
        due("sector", x.disk(Integer.MAX_VALUE, Integer.MIN_VALUE), -1);
    }

    private static void promise22() {
        part = "promise 22";
        RingComputer x = made(0x01, 0xC6, 0x00, 0x51, 0x03, 0x00);
        due("below", x.state(-1), -1);
        due("above", x.state(8), -1);
        due("0", x.state(0), 0);
        longs(x, VECTORS + 52, CODE + 4);
        x.run(2);
        due("steps", x.state(1), 2);
        due("done, the trap's too", x.state(7), 2);
        due("taken", x.state(2), 1);
        due("latest", x.state(3), 52);
        x.run(1);
        due("BPT is a fault", x.state(7), 2);
        due("taken", x.state(2), 2);
        due("latest", x.state(3), 44);
        x.run(5);
        due("HALT", x.state(0), 1);
        due("HALT is not counted", x.state(7), 2);
        due("steps", x.state(1), 4);
        tape(x, 1);
        due("tape", x.state(5), 20);
        x.write(35, 1);
        due("typed", x.state(4), 1);
        due("kept", x.state(6), 0);
    }

    public static void main(String[] args) {
        promise1();
        promises2to4();
        promise5();
        promises6and7();
        promises8and9();
        clock();
        terminal();
        typedRing();
        requests();
        diskOfSteps();
        promise10();
        promise11();
        promise21();
        faults();
        operands();
        exceptions();
        tracing();
        branches();
        fields();
        queues();
        calls();
        pushes();
        strings();
        edit();
        decimalEdges();
        floatEdges();
        modes();
        processes();
        promises14to16();
        promise17();
        promises18and19();
        promise20();
        promise22();
        System.out.println(wrong == 0 ? "promises: all answers are as due" : wrong + " answers are not as due");
        if (wrong != 0) {
            System.exit(1);
        }
    }
}
