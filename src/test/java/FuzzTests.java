import java.util.ArrayList;
import java.util.List;
import java.util.Random;
import java.util.function.ToLongFunction;

/**
 * Random calls and random programs: no call throws, refused calls change nothing, what is kept goes on alike. What is
 * done is written down first, so that objects can be made alike and each be looked at in part: none is used for more
 * calls than the document promises answers for.
 */
public final class FuzzTests {
    private static final int PAGES = 10;
    private static final int LOOKS = 90;

    private static int wrong = 0;

    private static void due(String what, long got, long want) {
        if (got != want) {
            wrong++;
            if (wrong < 40) {
                System.out.println(what + " answered " + got + ", due is " + want);
            }
        }
    }

    private static int someInt(Random random) {
        switch (random.nextInt(8)) {
            case 0: return random.nextInt();
            case 1: return random.nextInt(16384);
            case 2: return 0x80000000 | random.nextInt(16384);
            case 3: return 0x40000000 | random.nextInt(1 << 30) & -512 | random.nextInt(512);
            case 4: return random.nextInt(64) - 2;
            case 5: return -1 - random.nextInt(600);
            case 6: return 1 << random.nextInt(32);
            default: return random.nextInt(256);
        }
    }

    private static int specifier(Random random) {
        int mode = random.nextInt(16);
        int n = random.nextInt(8) == 0 ? 15 : random.nextInt(15);
        return mode << 4 | n;
    }

    private final Random random;
    private final int sectors;
    private final List<ToLongFunction<RingComputer>> done = new ArrayList<>();
    private final List<ToLongFunction<RingComputer>> looks = new ArrayList<>();

    private FuzzTests(int seed) {
        random = new Random(seed);
        sectors = random.nextInt(3);
    }

    private void add(ToLongFunction<RingComputer> one) {
        done.add(one);
    }

    private void feed(int[] five) {
        add(x -> x.feed(five[0], five[1], five[2], five[3], five[4]) ? 1 : 0);
    }

    private void fillMemory() {
        for (int part = 0; part < 9; part++) {
            for (int i = 0; i < 13; i++) {
                int[] five = new int[5];
                for (int k = 0; k < 5; k++) {
                    int word = 0;
                    for (int b = 0; b < 4; b++) {
                        int one = random.nextInt(3) == 0 ? random.nextInt(256) : specifier(random);
                        one = random.nextInt(5) == 0 ? random.nextInt(64) : one;
                        word = word << 8 | one;
                    }
                    five[k] = random.nextInt(6) == 0 ? 0x0000005C & random.nextInt() : word;
                }
                feed(five);
            }
            int address = random.nextInt(PAGES * 512 - 256);
            add(x -> x.load(address, 256) ? 1 : 0);
        }
    }

    /** A page table at 0xC00 for S and at S 0x0E00 for P0 and P1, most of its entries usable. */
    private void tables() {
        for (int table = 0; table < 2; table++) {
            for (int i = 0; i < 15; i += 5) {
                int[] five = new int[5];
                for (int k = 0; k < 5; k++) {
                    int code = random.nextInt(3) == 0 ? random.nextInt(16) : 4;
                    int page = random.nextInt(12) == 0 ? random.nextInt(1 << 21) : (i + k) % PAGES;
                    int valid = random.nextInt(8) == 0 ? 0 : 1 << 31;
                    five[k] = Integer.reverseBytes(valid | code << 27 | page);
                }
                feed(five);
            }
            int address = table == 0 ? 0xC00 : 0xE00;
            add(x -> x.load(address, 60) ? 1 : 0);
        }
        write(12, 0xC00);
        write(13, 14);
        write(8, 0x80000E00);
        write(9, 13);
        write(10, 0x80000E00 - 4 * (0x1FFFFF - 12));
        write(11, 0x1FFFFF - 12);
    }

    private void write(int k, int v) {
        add(x -> x.write(k, v) ? 1 : 0);
    }

    private void set(int k, int v) {
        add(x -> x.set(k, v) ? 1 : 0);
    }

    private void prepare() {
        fillMemory();
        tables();
        write(17, random.nextInt(4) == 0 ? 0 : 0x600);
        for (int k = 0; k < 5; k++) {
            write(k, random.nextInt(PAGES * 512));
        }
        write(56, random.nextInt(2));
        for (int k = 0; k < 14; k++) {
            set(k, someInt(random));
        }
        set(16, random.nextInt());
        set(14, random.nextInt(PAGES * 512));
    }

    private void programs() {
        for (int i = 0; i < 35; i++) {
            if (random.nextInt(3) == 0) {
                int address = random.nextInt(PAGES * 512);
                add(x -> x.halt() ? 1 : 0);
                add(x -> x.go(address) ? 1 : 0);
            }
            if (random.nextInt(4) == 0) {
                set(16, random.nextInt(3) == 0 ? random.nextInt() : random.nextInt() & 0x00C000FF);
                set(14, random.nextInt(PAGES * 512));
                set(random.nextInt(14), someInt(random));
            }
            int many = 1 + random.nextInt(i % 10 == 0 ? 300 : 6);
            long seed = random.nextLong();
            add(x -> x.run(many));
            add(x -> call(x, new Random(seed)));
            add(x -> x.register(16) & ~0x4FDF00FFL);
        }
    }

    private void allLooks() {
        for (int i = 0; i < 64; i++) {
            int k = i;
            looks.add(x -> x.register(k % 17));
            looks.add(x -> x.special(k));
            looks.add(x -> x.kept(k / 2, 1 + k % 2));
            looks.add(x -> x.state(k % 8));
            looks.add(x -> x.typed(k));
        }
        for (int i = 0; i < PAGES * 64; i++) {
            int k = i;
            looks.add(x -> x.memory(8 * k, 8));
        }
        for (int i = 0; i < sectors * 512; i++) {
            int k = i;
            looks.add(x -> x.disk(k / 512, k % 512));
        }
    }

    /** A new computer on which all was done. */
    private RingComputer made() {
        RingComputer x = new RingComputer(PAGES, sectors);
        for (ToLongFunction<RingComputer> one : done) {
            one.applyAsLong(x);
        }
        return x;
    }

    private void alike(String what, RingComputer x, RingComputer y) {
        int from = random.nextInt(looks.size() - LOOKS);
        for (int i = from; i < from + LOOKS; i++) {
            due(what + ", look " + i, looks.get(i).applyAsLong(x), looks.get(i).applyAsLong(y));
        }
    }

    private static long call(RingComputer x, Random random) {
        int a = someInt(random);
        int b = someInt(random);
        int c = someInt(random);
        switch (random.nextInt(22)) {
            case 0: return x.feed(a, b, c, a, b) ? 1 : 0;
            case 1: return x.load(a, random.nextInt(40)) ? 1 : 0;
            case 2: return x.stow(random.nextInt(6) - 1, random.nextInt(600)) ? 1 : 0;
            case 3: return x.register(random.nextInt(20) - 1);
            case 4: return x.set(random.nextInt(19) - 1, a) ? 1 : 0;
            case 5: return x.special(random.nextInt(70) - 2);
            case 6: case 7: return x.write(random.nextInt(70) - 2, a) ? 1 : 0;
            case 8: return x.memory(a, random.nextInt(10));
            case 9: return x.where(a, b, random.nextBoolean());
            case 10: return x.key(a) ? 1 : 0;
            case 11: return x.typed(random.nextInt(70) - 2);
            case 12: return x.go(random.nextInt(6000)) ? 1 : 0;
            case 13: return x.halt() ? 1 : 0;
            case 14: return x.proceed() ? 1 : 0;
            case 15: return x.boot(random.nextInt(6) - 1, random.nextInt(4), a) ? 1 : 0;
            case 16: return x.keep(random.nextInt(4) - 1) ? 1 : 0;
            case 17: return x.back(random.nextInt(4) - 1) ? 1 : 0;
            case 18: return x.disk(random.nextInt(6) - 1, b);
            case 19: return x.kept(random.nextInt(34) - 1, random.nextInt(5) - 1);
            case 20: return x.state(random.nextInt(10) - 1);
            default: return x.run(a);
        }
    }

    /** Calls that must be refused in any state: nothing may change. */
    private static void refusals(RingComputer x) {
        due("refused load", x.load(-1, 1) ? 1 : 0, 0);
        due("refused load", x.load(0, 0) ? 1 : 0, 0);
        due("refused load", x.load(0, 1001) ? 1 : 0, 0);
        due("refused stow", x.stow(-1, 1) ? 1 : 0, 0);
        due("refused stow", x.stow(64, 1) ? 1 : 0, 0);
        due("refused stow", x.stow(0, 513) ? 1 : 0, 0);
        due("refused run", x.run(0), -1);
        due("refused run", x.run(2001), -1);
        due("refused set", x.set(17, 5) ? 1 : 0, 0);
        due("refused set", x.set(-1, 5) ? 1 : 0, 0);
        due("refused write", x.write(19, 5) ? 1 : 0, 0);
        due("refused write", x.write(26, 5) ? 1 : 0, 0);
        due("refused write", x.write(62, 5) ? 1 : 0, 0);
        due("refused key", x.key(256) ? 1 : 0, 0);
        due("refused key", x.key(-1) ? 1 : 0, 0);
        due("refused boot", x.boot(0, 0, 0) ? 1 : 0, 0);
        due("refused boot", x.boot(0, Integer.MAX_VALUE, 0) ? 1 : 0, 0);
        due("refused keep", x.keep(2) ? 1 : 0, 0);
        due("refused back", x.back(-1) ? 1 : 0, 0);
    }

    private static void later(RingComputer x, int seed) {
        Random random = new Random(seed * 31L);
        for (int i = 0; i < 6; i++) {
            x.halt();
            x.go(random.nextInt(PAGES * 512));
            x.run(20);
        }
    }

    private static void round(int seed) {
        FuzzTests f = new FuzzTests(seed);
        f.prepare();
        f.programs();
        f.allLooks();
        RingComputer first = new RingComputer(PAGES, f.sectors);
        RingComputer second = new RingComputer(PAGES, f.sectors);
        for (ToLongFunction<RingComputer> one : f.done) {
            due("seed " + seed + ": the same calls", one.applyAsLong(first), one.applyAsLong(second));
        }
        due("bits of STATUS that are always 0", first.register(16) & ~0x4FDF00FFL, 0);
        RingComputer with = f.made();
        refusals(with);
        f.alike("seed " + seed + ": refused calls change nothing", with, f.made());
        RingComputer kept = f.made();
        kept.keep(1);
        later(kept, seed + 1);
        kept.back(1);
        later(kept, seed);
        RingComputer plain = f.made();
        plain.keep(1);
        later(plain, seed);
        f.alike("seed " + seed + ": goes on alike from what was kept", kept, plain);
    }

    public static void main(String[] args) {
        int rounds = args.length > 0 ? Integer.parseInt(args[0]) : 1500;
        for (int seed = 0; seed < rounds; seed++) {
            try {
                round(seed);
            } catch (RuntimeException e) {
                wrong++;
                System.out.println("seed " + seed + " threw " + e + " " + e.getStackTrace()[0] + e.getStackTrace()[1]);
            }
        }
        System.out.println(wrong == 0 ? "fuzz: all answers are as due" : wrong + " answers are not as due");
        if (wrong != 0) {
            System.exit(1);
        }
    }
}
