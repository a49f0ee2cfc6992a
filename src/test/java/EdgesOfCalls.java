import java.util.function.Predicate;
import java.util.function.Supplier;

/** Promises 1 to 22, at their edges: the last input that is allowed, the first that is not, and what is refused. */
public final class EdgesOfCalls {
    private static final int LEAST = Integer.MIN_VALUE;
    private static final int MOST = Integer.MAX_VALUE;
    private static final int PAGES = 8;
    private static final int END = PAGES * 512;
    private static final int[] READABLE = {0, 1, 2, 3, 4, 8, 9, 10, 11, 12, 13, 16, 17, 18, 19, 21, 24, 26, 27, 32, 33, 34,
        48, 49, 50, 56, 62};
    private static final int[] WRITABLE = {0, 1, 2, 3, 4, 8, 9, 10, 11, 12, 13, 16, 17, 18, 19, 20, 21, 24, 25, 27, 32, 34, 35,
        48, 49, 50, 56, 57, 58};

    private static boolean has(int[] row, int value) {
        for (int one : row) {
            if (one == value) {
                return true;
            }
        }
        return false;
    }

    /** A computer with something in all that it has: it goes on, or is HALTED. */
    private static RingComputer rich(boolean halted) {
        RingComputer x = new RingComputer(PAGES, 1);
        Bench.bytes(x, 512, Bench.code(0xD6, 0x51, 0x96, Bench.at(0x700), 0x11, 0xF6));
        Bench.tape(x, 9, 8, 7);
        x.stow(0, 3);
        Bench.longs(x, 0x800, 0xA0000000, 0xA0000001, 0xA0000002, 0xA0000003, 0xA0000004, 0xA0000005);
        x.write(12, 0x800);
        x.write(13, 6);
        x.write(8, 0x80000800);
        x.write(9, 6);
        x.write(56, 1);
        x.write(27, 77);
        x.write(25, -9);
        x.write(24, 0x51);
        x.write(32, 64);
        x.write(35, 65);
        x.write(48, 3);
        x.write(50, 0x42);
        x.write(20, 6);
        x.write(1, 101);
        x.write(19, 2);
        x.key(66);
        x.keep(0);
        x.set(7, 70);
        x.go(512);
        x.run(4);
        if (halted) {
            x.halt();
        }
        Bench.tape(x, 1, 2, 3, 4, 5, 6, 7, 8, 1, 2, 3, 4, 5, 6, 7, 8);
        return x;
    }

    private static void refusedAlways(String what, Predicate<RingComputer> call) {
        Bench.refused(what + " while it goes on", PAGES, 1, () -> rich(false), call);
        Bench.refused(what + " while HALTED", PAGES, 1, () -> rich(true), call);
    }

    private static void refusedIf(String what, boolean halted, Predicate<RingComputer> call) {
        Bench.refused(what, PAGES, 1, () -> rich(halted), call);
    }

    /** A call that only looks, and finds nothing, changes nothing either. */
    private static void findsNone(String what, java.util.function.ToLongFunction<RingComputer> look, long want) {
        Bench.due(what, look.applyAsLong(rich(false)), want);
        Bench.unchanged(what, PAGES, 1, () -> rich(false), x -> look.applyAsLong(x) == want);
    }

    private static void promise1() {
        Bench.part("promise 1");
        int[][] pages = {{8, 8}, {7, 32}, {128, 128}, {129, 32}, {9, 9}, {127, 127}, {0, 32}, {-8, 32}, {LEAST, 32}, {MOST, 32}};
        for (int[] one : pages) {
            RingComputer x = new RingComputer(one[0], 1);
            Bench.due("last byte of " + one[0] + " pages", x.memory(one[1] * 512 - 1, 1), 0);
            Bench.due("behind " + one[0] + " pages", x.memory(one[1] * 512, 1), -1);
        }
        int[][] sectors = {{0, 0}, {-1, 8}, {64, 64}, {65, 8}, {1, 1}, {63, 63}, {LEAST, 8}, {MOST, 8}};
        for (int[] one : sectors) {
            RingComputer x = new RingComputer(8, one[0]);
            Bench.due("last byte of " + one[0] + " sectors", x.disk(one[1] - 1, 511), one[1] == 0 ? -1 : 0);
            Bench.due("behind " + one[0] + " sectors", x.disk(one[1], 0), -1);
        }
        for (int part = 0; part < 2; part++) {
            RingComputer x = new RingComputer(PAGES, 1);
            for (int i = 0; i < 256; i++) {
                Bench.due("memory is 0", x.memory(part * 2048 + 8 * i, 8), 0);
                Bench.due("the disk is 0", x.disk(0, part * 256 + i), 0);
            }
        }
        RingComputer x = new RingComputer(PAGES, 1);
        for (int k : READABLE) {
            long want = k == 18 ? 31 : k == 34 || k == 50 ? 128 : k == 62 ? 0x01000611 : 0;
            Bench.due("special " + k, x.special(k), want);
        }
        for (int k = 0; k < 16; k++) {
            Bench.due("register " + k, x.register(k), 0);
        }
        Bench.due("IPL 31, IS 1, all else 0", x.register(16), 0x041F0000);
        for (int k = 0; k < 8; k++) {
            Bench.due("state " + k, x.state(k), k == 0 ? 3 : 0);
        }
        for (int k = 0; k < 32; k++) {
            Bench.due("nothing is kept", x.kept(k, 0), 0);
        }
        Bench.no("nothing is kept in place 0", x.back(0));
        Bench.no("nothing is kept in place 1", x.back(1));
        Bench.due("NEXT is 0, too", x.write(24, 0x10) ? x.special(26) : -1, 0);
    }

    private static void promise2() {
        Bench.part("promise 2");
        RingComputer x = new RingComputer(PAGES, 1);
        Bench.yes("20 bytes", x.feed(0x01020304, 0x85868788, 0x090A0B0C, 0x0D0E0F10, 0x111213FF));
        Bench.due("20 bytes", x.state(5), 20);
        x.load(0, 20);
        Bench.due("the highest of a first", x.memory(0, 8), 0x8887868504030201L);
        Bench.due("the lowest of e last", x.memory(16, 4), 0xFF131211L);
        Bench.due("not beyond", x.memory(20, 1), 0);
        for (int i = 0; i < 50; i++) {
            Bench.yes("feed " + i, x.feed(i, 0, 0, 0, i + 1));
        }
        Bench.due("1000 bytes may be there", x.state(5), 1000);
        Bench.no("1020 may not", x.feed(-1, -1, -1, -1, -1));
        Bench.due("1000 bytes", x.state(5), 1000);
        Bench.yes("load all", x.load(0, 1000));
        Bench.due("what came first is first", x.memory(16, 8), 0x0100000001000000L);
        Bench.due("the refused ones did not come", x.memory(996, 8), 0x32000000);
        Bench.yes("from empty again", x.feed(1, 2, 3, 4, 5));
        Supplier<RingComputer> full = () -> {
            RingComputer y = rich(false);
            for (int i = 0; i < 49; i++) {
                y.feed(i, i, i, i, i);
            }
            return y;
        };
        Bench.refused("feed beyond 1000", PAGES, 1, full, y -> y.feed(1, 2, 3, 4, 5));
    }

    private static void promise3() {
        Bench.part("promise 3");
        RingComputer x = new RingComputer(PAGES, 1);
        Bench.no("the tape is empty", x.load(0, 1));
        Bench.tape(x, Bench.repeated(7, 40));
        Bench.yes("1 byte", x.load(100, 1));
        Bench.due("1 byte", x.memory(99, 4), 0x0700);
        Bench.due("the tape is empty then", x.state(5), 0);
        Bench.tape(x, Bench.repeated(8, 40));
        Bench.yes("all bytes, at the end", x.load(END - 40, 40));
        Bench.due("the end", x.memory(END - 8, 8), 0x0808080808080808L);
        Bench.due("ahead of them", x.memory(END - 48, 8), 0);
        Bench.tape(x, Bench.repeated(9, 20));
        Bench.yes("one at the last address", x.load(END - 1, 1));
        Bench.due("the last", x.memory(END - 2, 2), 0x0908);
        int[][] wrongOnes = {{0, 0}, {0, -1}, {0, LEAST}, {0, 21}, {0, MOST}, {END, 1}, {END - 1, 2}, {END - 19, 20}, {-1, 1},
            {-1, 20}, {LEAST, 1}, {MOST, 1}, {MOST, 20}, {MOST - 10, 20}};
        for (int[] one : wrongOnes) {
            refusedAlways("load(" + one[0] + ", " + one[1] + ")", y -> y.load(one[0], one[1]));
        }
        RingComputer running = rich(false);
        Bench.yes("while it goes on", running.load(0, 20));
    }

    private static void promise4() {
        Bench.part("promise 4");
        RingComputer x = new RingComputer(PAGES, 64);
        Bench.no("the tape is empty", x.stow(0, 1));
        Bench.tape(x, Bench.repeated(7, 520));
        Bench.no("513", x.stow(0, 513));
        Bench.yes("512", x.stow(63, 512));
        Bench.due("the first", x.disk(63, 0), 7);
        Bench.due("the last", x.disk(63, 511), 7);
        Bench.due("the tape is empty then", x.state(5), 0);
        Bench.tape(x, Bench.repeated(8, 20));
        Bench.yes("1 byte", x.stow(63, 1));
        Bench.due("it", x.disk(63, 0), 8);
        for (int i = 1; i < 512; i += 5) {
            Bench.due("the others are 0", x.disk(63, i), 0);
        }
        Bench.due("the last is 0", x.disk(63, 511), 0);
        Bench.due("no other sector", x.disk(62, 0), 0);
        RingComputer none = new RingComputer(PAGES, 0);
        none.feed(1, 2, 3, 4, 5);
        Bench.no("a disk without sectors", none.stow(0, 1));
        Bench.due("the tape stays", none.state(5), 20);
        int[][] wrongOnes = {{0, 0}, {0, -1}, {0, 21}, {0, 513}, {0, LEAST}, {0, MOST}, {1, 1}, {-1, 1}, {LEAST, 1}, {MOST, 1}};
        for (int[] one : wrongOnes) {
            refusedAlways("stow(" + one[0] + ", " + one[1] + ")", y -> y.stow(one[0], one[1]));
        }
    }

    private static void promise5() {
        Bench.part("promise 5");
        RingComputer x = new RingComputer(PAGES, 1);
        Bench.due("HALTED from the first", x.run(1), 0);
        Bench.bytes(x, 0, 0x11, 0xFE);
        x.write(27, 1);
        x.run(2000);
        Bench.due("HALTED, nothing goes on", x.special(27), 1);
        x.go(0);
        Bench.due("1", x.run(1), 1);
        Bench.due("2000", x.run(2000), 2000);
        Bench.due("steps", x.state(1), 2001);
        Bench.due("DAY went on with each", x.special(27), 2002);
        Bench.bytes(x, 0, 0x00);
        Bench.due("the step that HALTS counts", x.run(2000), 1);
        Bench.due("steps", x.state(1), 2002);
        int[] wrongOnes = {0, -1, 2001, LEAST, MOST};
        for (int n : wrongOnes) {
            findsNone("run(" + n + ")", y -> y.run(n), -1);
        }
    }

    private static void promises6and7() {
        Bench.part("promise 6");
        RingComputer x = new RingComputer(PAGES, 1);
        int[] none = {-1, 17, LEAST, MOST};
        for (int k : none) {
            findsNone("register(" + k + ")", y -> y.register(k), -1);
        }
        Bench.part("promise 7");
        for (int k = 0; k < 16; k++) {
            x.set(k, -1);
            Bench.due("without sign", x.register(k), 0xFFFFFFFFL);
            x.set(k, LEAST);
            Bench.due("without sign", x.register(k), 0x80000000L);
        }
        for (int k : none) {
            refusedAlways("set(" + k + ")", y -> y.set(k, 5));
        }
        for (int bit = 0; bit < 32; bit++) {
            Bench.yes("STATUS", x.set(16, 1 << bit));
            boolean lasts = bit < 8 || bit >= 16 && bit <= 20 || bit >= 22 && bit <= 27 || bit == 30;
            Bench.due("bit " + bit, x.register(16), lasts ? 1L << bit : 0);
        }
        x.set(16, -1);
        Bench.due("all bits", x.register(16), 0x4FDF00FFL);
    }

    private static void stackPointers() {
        Bench.part("stack pointers");
        int[] statuses = {0, 0x01000000, 0x02000000, 0x03000000, 0x04000000};
        for (int from = 0; from < 5; from++) {
            for (int to = 0; to < 5; to++) {
                RingComputer x = new RingComputer(PAGES, 1);
                x.set(16, statuses[from]);
                for (int k = 0; k < 5; k++) {
                    Bench.yes("write", x.write(k, 100 + k));
                }
                Bench.due("SP is the one of " + from, x.register(14), 100 + from);
                x.set(14, 55);
                Bench.due("read as SP", x.special(from), 55);
                x.set(16, statuses[to]);
                Bench.due("SP is the one of " + to, x.register(14), from == to ? 55 : 100 + to);
                for (int k = 0; k < 5; k++) {
                    Bench.due("special " + k, x.special(k), k == from ? 55 : 100 + k);
                }
            }
        }
        RingComputer x = new RingComputer(PAGES, 1);
        x.write(3, 33);
        x.write(4, 44);
        x.set(16, 0x07000000);
        Bench.due("IS is stronger than CUR", x.register(14), 44);
        Bench.due("the user's is kept", x.special(3), 33);
    }

    private static void promises8and9() {
        Bench.part("promise 8");
        for (int k = -3; k < 140; k++) {
            RingComputer x = new RingComputer(PAGES, 1);
            Bench.due("special " + k, x.special(k) >= 0 ? 1 : 0, has(READABLE, k) ? 1 : 0);
            if (!has(READABLE, k)) {
                Bench.due("special " + k, x.special(k), -1);
            }
        }
        int[] far = {LEAST, MOST, 256, 65536, 1 << 30};
        for (int k : far) {
            findsNone("special(" + k + ")", x -> x.special(k), -1);
        }
        for (int k : READABLE) {
            Bench.unchanged("reading " + k, PAGES, 1, () -> rich(false), x -> x.special(k) >= 0);
        }
        Bench.part("promise 9");
        for (int k = -3; k < 140; k++) {
            int special = k;
            if (has(WRITABLE, k)) {
                Bench.yes("write " + k, rich(false).write(k, 1));
            } else {
                refusedIf("write " + k, k % 2 == 0, x -> x.write(special, 1));
            }
        }
        for (int k : far) {
            refusedAlways("write(" + k + ")", x -> x.write(k, 1));
        }
        int[] levels = {-1, 5, LEAST, MOST, 256};
        for (int v : levels) {
            refusedAlways("ASTLVL " + v, x -> x.write(19, v));
        }
        for (int v = 0; v <= 4; v++) {
            RingComputer x = rich(false);
            Bench.yes("ASTLVL " + v, x.write(19, v));
            Bench.due("ASTLVL", x.special(19), v);
        }
        RingComputer user = rich(false);
        user.set(16, 0x03000000);
        Bench.yes("as in kernel mode, whatever the mode is", user.write(16, 9));
        Bench.due("as in kernel mode", user.special(16), 9);
        Bench.due("readable, whatever the mode is", user.special(19), 2);
    }

    private static void promise10() {
        Bench.part("promise 10");
        RingComputer x = new RingComputer(PAGES, 1);
        Bench.bytes(x, 0, 0xF1, 0xF2, 0xF3, 0xF4, 0xF5, 0xF6, 0xF7, 0xF8);
        Bench.bytes(x, END - 8, 0xE1, 0xE2, 0xE3, 0xE4, 0xE5, 0xE6, 0xE7, 0xE8);
        Bench.due("1", x.memory(0, 1), 0xF1);
        Bench.due("2", x.memory(0, 2), 0xF2F1);
        Bench.due("4", x.memory(0, 4), 0xF4F3F2F1L);
        Bench.due("8: all bits", x.memory(0, 8), 0xF8F7F6F5F4F3F2F1L);
        Bench.due("the last 1", x.memory(END - 1, 1), 0xE8);
        Bench.due("the last 2", x.memory(END - 2, 2), 0xE8E7);
        Bench.due("the last 4", x.memory(END - 4, 4), 0xE8E7E6E5L);
        Bench.due("the last 8", x.memory(END - 8, 8), 0xE8E7E6E5E4E3E2E1L);
        int[][] none = {{END, 1}, {END - 1, 2}, {END - 3, 4}, {END - 7, 8}, {-1, 1}, {-1, 2}, {-4, 4}, {-8, 8}, {LEAST, 1},
            {MOST, 1}, {MOST, 8}, {0, 0}, {0, 3}, {0, 5}, {0, 6}, {0, 7}, {0, 9}, {0, 16}, {0, -1}, {0, LEAST}, {0, MOST}};
        for (int[] one : none) {
            findsNone("memory(" + one[0] + ", " + one[1] + ")", y -> y.memory(one[0], one[1]), -1);
        }
    }

    private static void promises12and13() {
        Bench.part("promise 12");
        int[] fine = {0, 1, 255};
        for (int c : fine) {
            RingComputer x = new RingComputer(PAGES, 1);
            Bench.yes("key " + c, x.key(c));
            Bench.due("THERE", x.special(32), 128);
            Bench.due("the byte", x.special(33), c);
        }
        int[] unfit = {-1, 256, LEAST, MOST, 0x141};
        for (int c : unfit) {
            Bench.refused("key " + c, PAGES, 1, () -> new RingComputer(PAGES, 1), x -> x.key(c));
        }
        refusedAlways("a key while one is THERE", x -> x.key(67));
        Bench.part("promise 13");
        RingComputer x = new RingComputer(PAGES, 1);
        Bench.due("none was typed", x.typed(0), -1);
        Bench.bytes(x, 0, 0x11, 0xFE);
        x.go(0);
        for (int i = 0; i < 64; i++) {
            x.write(35, 0x100 + 192 + i);
            x.run(3);
        }
        Bench.due("the last", x.typed(0), 255);
        Bench.due("the 64th last", x.typed(63), 192);
        Bench.due("there are 64", x.typed(64), -1);
        x.write(35, 7);
        x.run(3);
        Bench.due("the last", x.typed(0), 7);
        Bench.due("the one before", x.typed(1), 255);
        Bench.due("the 64th last", x.typed(63), 193);
        Bench.due("the 65th last is not one of them", x.typed(64), -1);
        Bench.due("all are counted", x.state(4), 65);
        int[] none = {-1, 1, 63, 64, LEAST, MOST};
        for (int i : none) {
            findsNone("typed(" + i + ")", y -> y.typed(i), -1);
        }
        Bench.due("one was typed", rich(false).typed(0), 65);
    }

    private static void promises14to16() {
        Bench.part("promises 14 to 16");
        int[] addresses = {0, 1, -1, LEAST, MOST, END};
        for (int address : addresses) {
            RingComputer x = rich(true);
            Bench.yes("go", x.go(address));
            Bench.due("at an address", x.register(15), address & 0xFFFFFFFFL);
            Bench.due("it goes on", x.state(0), 0);
            refusedIf("go while it goes on", false, y -> y.go(address));
        }
        refusedIf("proceed while it goes on", false, RingComputer::proceed);
        refusedIf("halt while HALTED", true, RingComputer::halt);
        RingComputer x = rich(false);
        long pc = x.register(15);
        Bench.yes("halt", x.halt());
        Bench.due("HALTED by none of its own", x.state(0), 3);
        Bench.due("no step", x.run(9), 0);
        Bench.yes("proceed", x.proceed());
        Bench.due("where it is", x.register(15), pc);
        Bench.due("it goes on", x.run(1), 1);
        Trial byInstruction = Trial.of("HALT", 0x00).run(1).state(0, 1);
        Bench.no("halt", byInstruction.x.halt());
        byInstruction.state(0, 1);
        Bench.yes("proceed behind HALT", byInstruction.x.proceed());
        byInstruction.state(0, 0).is(15, Trial.CODE + 1);
        Trial byException = Trial.of("BPT", 0x03).vector(44, 2).run(1).state(0, 2);
        Bench.no("halt", byException.x.halt());
        byException.state(0, 2);
        Bench.yes("go behind an exception", byException.x.go(0));
        byException.state(0, 0);
    }

    private static RingComputer withSectors(boolean halted) {
        RingComputer x = new RingComputer(PAGES, 2);
        for (int sector = 0; sector < 2; sector++) {
            Bench.tape(x, Bench.repeated(sector + 1, 500));
            x.stow(sector, 500);
        }
        x.set(5, 50);
        x.write(25, 9);
        x.write(24, 0x51);
        x.write(34, 64);
        x.write(35, 70);
        x.write(50, 0x41);
        if (!halted) {
            x.go(0);
        }
        return x;
    }

    private static void promise17() {
        Bench.part("promise 17");
        int[][] fine = {{0, 1, 0}, {1, 1, 0}, {0, 2, 0}, {0, 1, END - 512}, {0, 2, END - 1024}, {1, 1, 7}};
        for (int[] one : fine) {
            RingComputer x = withSectors(true);
            Bench.yes("boot", x.boot(one[0], one[1], one[2]));
            int behind = one[2] + 512 * one[1];
            Bench.due("the first byte", x.memory(one[2], 1), one[0] + 1);
            Bench.due("the last bytes", x.memory(behind - 14, 4), (one[0] + one[1]) * 0x0101);
            Bench.due("SP behind", x.register(14), behind);
            Bench.due("PC", x.register(15), one[2]);
            Bench.due("STATUS", x.register(16), 0x041F0000);
            Bench.due("R5", x.register(5), 0);
            Bench.due("it goes on", x.state(0), 0);
            Bench.due("the clock is as at first", x.special(24), 0);
            Bench.due("the terminal", x.special(34), 128);
            Bench.due("the disk", x.special(50), 128);
            Bench.due("typed bytes stay", x.typed(0), 70);
            x.write(24, 0x10);
            Bench.due("NEXT is as at first", x.special(26), 0);
        }
        int[][] unfit = {{0, 0, 0}, {0, -1, 0}, {0, LEAST, 0}, {0, 3, 0}, {1, 2, 0}, {2, 1, 0}, {-1, 1, 0}, {-1, 2, 0}, {LEAST, 1, 0},
            {MOST, 1, 0}, {0, MOST, 0}, {1, MOST, 0}, {MOST, MOST, 0}, {0, 1, END - 511}, {0, 2, END - 1023}, {0, 1, END},
            {0, 1, -1}, {0, 1, -512}, {0, 1, LEAST}, {0, 1, MOST}, {0, 1 << 23, 0}, {0, 8, 0}};
        for (int[] one : unfit) {
            Bench.refused("boot(" + one[0] + ", " + one[1] + ", " + one[2] + ")", PAGES, 2, () -> withSectors(true),
                x -> x.boot(one[0], one[1], one[2]));
        }
        Bench.refused("boot while it goes on", PAGES, 2, () -> withSectors(false), x -> x.boot(0, 1, 0));
        RingComputer none = new RingComputer(PAGES, 0);
        Bench.no("no sectors", none.boot(0, 1, 0));
        Bench.no("none of no sectors", none.boot(0, 0, 0));
        bootEnds();
    }

    private static void bootForgets() {
        Trial t = Trial.mapped("boot", 0x90, Bench.at(0), Bench.at(Trial.S + 15 * 512)).run(1);
        Bench.due("the first and the last", t.x.kept(0, 0) + t.x.kept(31, 0), 2);
        for (int k = 0; k < 14; k++) {
            t.reg(k, 0x1000 + k);
        }
        for (int k = 0; k < 5; k++) {
            t.special(k, 0x2000 + k);
        }
        Bench.yes("halt", t.x.halt());
        Bench.yes("boot", t.x.boot(7, 1, 0x600));
        t.state(6, 0).is(14, 0x800).is(15, 0x600).reads(4, 0x800);
        for (int k = 0; k < 32; k++) {
            t.kept(k, -1, -1);
        }
        for (int k = 0; k < 14; k++) {
            t.is(k, 0);
        }
        for (int k = 0; k < 4; k++) {
            t.reads(k, 0);
        }
    }

    private static void bootResets() {
        RingComputer x = new RingComputer(PAGES, 2);
        x.key(200);
        x.write(25, 0x7777);
        x.write(24, 0x71);
        for (int k : WRITABLE) {
            if (k != 24 && k != 25 && k != 57 && k != 58) {
                x.write(k, k == 19 ? 3 : k == 20 ? 5 : 0x7FFFFF41);
            }
        }
        x.set(16, 0x03C000EF);
        for (int k = 0; k < 16; k++) {
            x.set(k, -1 - k);
        }
        for (int k : READABLE) {
            Bench.yes("special " + k + " is not as at first", k == 62 || k == 18 || x.special(k) != 0);
        }
        Bench.yes("boot", x.boot(1, 1, 512));
        for (int k : READABLE) {
            long want = k == 18 ? 31 : k == 34 || k == 50 ? 128 : k == 62 ? 0x01000611 : k == 27 ? 0x7FFFFF41 : k == 33 ? 200 : k == 4 ? 1024 : 0;
            Bench.due("special " + k + " behind boot", x.special(k), want);
        }
        for (int k = 0; k < 16; k++) {
            Bench.due("register " + k + " behind boot", x.register(k), k == 14 ? 1024 : k == 15 ? 512 : 0);
        }
        Bench.due("STATUS behind boot", x.register(16), 0x041F0000);
        Bench.due("typed", x.typed(0), 0x41);
        Bench.due("typed in all", x.state(4), 1);
        Bench.yes("a key may come again", x.key(1));
        x.write(24, 0x10);
        Bench.due("NEXT behind boot", x.special(26), 0);
    }

    private static void bootEnds() {
        bootForgets();
        bootResets();
        RingComputer x = rich(true);
        x.write(18, 0);
        long steps = x.state(1);
        long latest = x.state(3);
        Bench.yes("boot", x.boot(0, 1, 0));
        Bench.due("27 stays", x.special(27), 81);
        Bench.due("33 stays", x.special(33), 66);
        Bench.due("THERE does not", x.special(32), 0);
        Bench.due("nothing is kept", x.state(6), 0);
        Bench.due("steps stay", x.state(1), steps);
        Bench.due("the latest stays", x.state(3), latest);
        Bench.due("the tape stays", x.state(5), 20);
        Bench.yes("what keep kept stays", x.back(0));
        x = rich(true);
        x.boot(0, 1, 0);
        x.load(2000, 20);
        Bench.bytes(x, 0, 0x11, 0xFE);
        x.write(18, 0);
        x.run(30);
        Bench.due("nothing is requested, the disk's work is over", x.state(2), 0);
        Bench.due("READY as it was", x.special(50), 128);
        Bench.due("nothing was written", x.disk(0, 0), 9);
        x = withSectors(true);
        x.boot(0, 1, 0);
        Bench.bytes(x, 0, 0x11, 0xFE);
        Bench.longs(x, 252, 1);
        x.write(18, 0);
        x.write(34, 64);
        x.run(1);
        Bench.due("ENABLED while READY", x.state(3), 252);
        x.write(18, 0);
        x.run(5);
        Bench.due("what the terminal was at is over", x.state(2), 1);
    }

    private static void promises18and19() {
        Bench.part("promises 18 and 19");
        int[] none = {-1, 2, LEAST, MOST, 256};
        for (int place : none) {
            refusedAlways("keep " + place, x -> x.keep(place));
            refusedAlways("back " + place, x -> x.back(place));
        }
        refusedAlways("back from a place where nothing is", x -> x.back(1));
        for (int place = 0; place < 2; place++) {
            RingComputer x = new RingComputer(PAGES, 1);
            Bench.no("nothing is kept", x.back(place));
            x.set(1, 11);
            Bench.yes("keep", x.keep(place));
            Bench.no("in the other nothing is", x.back(1 - place));
            x.set(1, 22);
            Bench.bytes(x, 0, 5);
            Bench.tape(x, 6);
            x.stow(0, 1);
            x.write(35, 65);
            x.go(77);
            Bench.tape(x, 1, 2, 3);
            Bench.yes("back", x.back(place));
            Bench.due("registers", x.register(1), 11);
            Bench.due("memory", x.memory(0, 1), 0);
            Bench.due("disk", x.disk(0, 0), 0);
            Bench.due("typed", x.typed(0), -1);
            Bench.due("HALTED", x.state(0), 3);
            Bench.due("the tape is as it is", x.state(5), 20);
            x.set(1, 33);
            Bench.yes("back again", x.back(place));
            Bench.due("what is kept did not change", x.register(1), 11);
            x.set(1, 44);
            x.keep(place);
            x.set(1, 55);
            x.back(place);
            Bench.due("the latest keep counts", x.register(1), 44);
        }
    }

    /** Changes all that back has to bring again. */
    private static boolean scrambled(RingComputer x) {
        x.halt();
        for (int k = 0; k < 16; k++) {
            x.set(k, 0x5000 + k);
        }
        x.key(99);
        x.write(56, 0);
        x.set(16, 0x03C000EF);
        for (int k : WRITABLE) {
            if (k != 19 && k != 56 && k != 35) {
                x.write(k, 0x41);
            }
        }
        x.go(512);
        x.run(30);
        x.write(35, 88);
        x.run(3);
        x.write(35, 89);
        x.write(32, 0);
        return x.back(1);
    }

    private static void allIsAgain() {
        for (int i = 0; i < 2; i++) {
            boolean halted = i == 1;
            Supplier<RingComputer> make = () -> {
                RingComputer x = rich(halted);
                x.write(18, 0);
                x.keep(1);
                return x;
            };
            Bench.yes("back", scrambled(make.get()));
            Bench.unchanged("all is again", PAGES, 1, make, EdgesOfCalls::scrambled);
        }
    }

    /** What can't be seen when it is brought again, but comes out later. */
    private static void hiddenIsAgain() {
        Trial t = Trial.mapped("the kept entry's place", 0x95, Bench.at(5), 0x94, Bench.at(5)).run(1);
        t.x.keep(0);
        t.longs(Trial.PROCESS_TABLE + 64, 0xA0000010).special(8, (Trial.S | Trial.PROCESS_TABLE) + 64).run(1).holds(Trial.PROCESS_TABLE + 64, 4, 0xA4000010L);
        Bench.yes("back", t.x.back(0));
        t.run(1).fine().holds(Trial.PROCESS_TABLE, 4, 0xA4000010L).holds(Trial.PROCESS_TABLE + 64, 4, 0);
        Trial pending = Trial.of("a request", 0x11, 0xFE).special(32, 64);
        pending.x.keep(1);
        pending.x.key(5);
        pending.x.keep(0);
        pending.run(1).state(3, 248);
        Bench.yes("back", pending.x.back(0));
        pending.state(2, 0).run(1).state(3, 248).state(2, 1);
        Bench.yes("back", pending.x.back(0));
        Bench.yes("back", pending.x.back(1));
        pending.run(1).state(2, 0);
        Trial typed = Trial.of("typed bytes", 0x11, 0xFE).special(35, 0x41).run(3);
        typed.x.keep(0);
        for (int i = 0; i < 64; i++) {
            typed.x.write(35, 0x42);
            typed.x.run(3);
        }
        Bench.due("typed", typed.x.typed(63), 0x42);
        Bench.yes("back", typed.x.back(0));
        Bench.due("typed again", typed.x.typed(0), 0x41);
        Bench.due("one alone", typed.x.typed(1), -1);
    }

    private static void promises20and21() {
        Bench.part("promise 20");
        RingComputer x = withSectors(true);
        Bench.due("first", x.disk(0, 0), 1);
        Bench.due("last of 500", x.disk(1, 499), 2);
        Bench.due("last", x.disk(1, 511), 0);
        int[][] none = {{0, -1}, {0, 512}, {0, LEAST}, {0, MOST}, {1, 0}, {-1, 0}, {-1, 512}, {1, -512}, {LEAST, 0}, {MOST, 0},
            {1 << 23, 0}};
        for (int[] one : none) {
            findsNone("disk(" + one[0] + ", " + one[1] + ")", y -> y.disk(one[0], one[1]), -1);
        }
        Bench.part("promise 21");
        Bench.due("one is there", rich(false).kept(1, 0), 1);
        int[][] unfit = {{-1, 0}, {32, 0}, {-1, 1}, {32, 2}, {LEAST, 0}, {MOST, 0}, {1, -1}, {1, 3}, {1, 4}, {1, LEAST}, {1, MOST}, {0, 3}, {0, 1},
            {0, 2}};
        for (int[] one : unfit) {
            findsNone("kept(" + one[0] + ", " + one[1] + ")", y -> y.kept(one[0], one[1]), -1);
        }
        Trial t = Trial.mapped("kept", 0xD5, Bench.at(15 * 512), 0xD5, Bench.at(Trial.P1 + (0x1FFFF0 << 9)), 0x00).run(2);
        t.kept(15, 15 * 512, 0xA000001FL).kept(0, 0x7FFFE000L, 0xA0000010L);
        t.kept(17, 0x80000200L, 0xA0000001L).kept(22, 0x80000C00L, 0xA0000006L).kept(31, -1, -1).kept(14, -1, -1);
        Bench.due("the last of P0, P1", t.x.kept(15, 0), 1);
        Bench.due("the first of S", t.x.kept(16, 0), 0);
        Bench.due("the last of S", t.x.kept(31, 0), 0);
        t.state(6, 4);
    }

    private static void promise22() {
        Bench.part("promise 22");
        int[] none = {-1, 8, LEAST, MOST};
        for (int what : none) {
            findsNone("state(" + what + ")", x -> x.state(what), -1);
        }
        Trial t = Trial.of("state", 0x01, 0x03).run(2).state(0, 0).state(1, 2).state(2, 1).state(3, 44).state(7, 1);
        t.run(1).state(0, 1).state(1, 3).state(7, 1);
        Bench.due("HALTED", t.x.run(5), 0);
        t.state(1, 3);
        t = Trial.of("KERNEL STACK NOT VALID counts once", 0x03).vector(44, Trial.HANDLER).reg(14, 0).run(1);
        t.state(2, 1).state(3, 8).state(0, 0);
        t = Trial.of("none if it HALTS", 0x01, 0x03).vector(44, 3).run(2).state(2, 0).state(3, 0).state(0, 2).state(7, 1);
        t = Trial.of("a trap's instruction is at its end", 0xC6, 0x00, 0x51).run(1).state(7, 1).state(2, 1);
        t = Trial.of("rounds are not counted", 0x3B, 0x00, Bench.w(250), Bench.at(Trial.DATA)).run(2).state(7, 0).run(1).state(7, 1);
        t = Trial.of("an interrupt is no instruction", 0x01).special(20, 1).run(1).state(7, 0).state(2, 1).state(3, 132);
    }

    private static void ownMemory() {
        Bench.part("all memory is the computer's own");
        RingComputer x = rich(false);
        RingComputer y = new RingComputer(PAGES, 1);
        Bench.due("another's memory", y.memory(512, 8), 0);
        Bench.due("another's registers", y.register(7), 0);
        Bench.due("another's tape", y.state(5), 0);
        Bench.no("another's kept", y.back(0));
        y.keep(0);
        y.keep(1);
        Bench.due("disk", y.disk(0, 0), 0);
        Bench.yes("its own kept", x.back(0));
        Bench.due("its own memory", x.memory(512, 1), 0xD6);
    }

    public static void main(String[] args) {
        promise1();
        promise2();
        promise3();
        promise4();
        promise5();
        promises6and7();
        stackPointers();
        promises8and9();
        promise10();
        promises12and13();
        promises14to16();
        promise17();
        promises18and19();
        allIsAgain();
        hiddenIsAgain();
        promises20and21();
        promise22();
        ownMemory();
        Bench.end("edges of calls");
    }
}
