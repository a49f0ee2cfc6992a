import java.util.Random;

/** Random calls and random programs: no call throws, refused calls change nothing, what is kept goes on alike. */
public final class FuzzTests {
    private static int wrong = 0;

    private static void due(String what, long got, long want) {
        if (got != want) {
            wrong++;
            if (wrong < 40) {
                System.out.println(what + " answered " + got + ", due is " + want);
            }
        }
    }

    private static int someInt(Random random) {
        switch (random.nextInt(8)) {
            case 0: return random.nextInt();
            case 1: return random.nextInt(16384);
            case 2: return 0x80000000 | random.nextInt(16384);
            case 3: return 0x40000000 | random.nextInt(1 << 30) & -512 | random.nextInt(512);
            case 4: return random.nextInt(64) - 2;
            case 5: return -1 - random.nextInt(600);
            case 6: return 1 << random.nextInt(32);
            default: return random.nextInt(256);
        }
    }

    private static int specifier(Random random) {
        int mode = random.nextInt(16);
        int n = random.nextInt(8) == 0 ? 15 : random.nextInt(15);
        return mode << 4 | n;
    }

    private static void fillMemory(RingComputer x, Random random, int pages) {
        for (int page = 0; page < pages; page++) {
            for (int part = 0; part < 2; part++) {
                for (int i = 0; i < 13; i++) {
                    int[] five = new int[5];
                    for (int k = 0; k < 5; k++) {
                        int word = 0;
                        for (int b = 0; b < 4; b++) {
                            int one = random.nextInt(3) == 0 ? random.nextInt(256) : specifier(random);
                            one = random.nextInt(5) == 0 ? random.nextInt(64) : one;
                            word = word << 8 | one;
                        }
                        five[k] = random.nextInt(6) == 0 ? 0x0000005C & random.nextInt() : word;
                    }
                    x.feed(five[0], five[1], five[2], five[3], five[4]);
                }
                x.load(page * 512 + part * 256, 256);
            }
        }
    }

    /** A page table at 0xC00 for S and at S 0x0E00 for P0 and P1, most of its entries usable. */
    private static void tables(RingComputer x, Random random, int pages) {
        for (int table = 0; table < 2; table++) {
            for (int i = 0; i < 32; i += 5) {
                int[] five = new int[5];
                for (int k = 0; k < 5; k++) {
                    int code = random.nextInt(3) == 0 ? random.nextInt(16) : 4;
                    int page = random.nextInt(12) == 0 ? random.nextInt(1 << 21) : (i + k) % pages;
                    int valid = random.nextInt(8) == 0 ? 0 : 1 << 31;
                    five[k] = Integer.reverseBytes(valid | code << 27 | page);
                }
                x.feed(five[0], five[1], five[2], five[3], five[4]);
            }
            x.load(table == 0 ? 0xC00 : 0xE00, 128);
        }
        x.write(12, 0xC00);
        x.write(13, 30);
        x.write(8, 0x80000E00);
        x.write(9, 28);
        x.write(10, 0x80000E00 - 4 * (0x1FFFFF - 27));
        x.write(11, 0x1FFFFF - 27);
    }

    private static long digest(RingComputer x, int pages, int sectors, boolean deep) {
        long d = 17;
        for (int k = 0; k < 17; k++) {
            d = d * 31 + x.register(k);
        }
        for (int k = 0; k < 64; k++) {
            d = d * 31 + x.special(k);
        }
        for (int k = 0; k < 32; k++) {
            d = (d * 31 + x.kept(k, 1)) * 31 + x.kept(k, 2);
        }
        for (int k = 0; k < 8; k++) {
            d = d * 31 + x.state(k);
        }
        for (int k = 0; k < 64; k++) {
            d = d * 31 + x.typed(k);
        }
        for (int a = 0; deep && a < pages * 512; a += 8) {
            d = d * 31 + x.memory(a, 8);
        }
        for (int a = 0; deep && a < sectors * 512; a++) {
            d = d * 31 + x.disk(a / 512, a % 512);
        }
        return d;
    }

    private static long call(RingComputer x, Random random) {
        int a = someInt(random);
        int b = someInt(random);
        int c = someInt(random);
        switch (random.nextInt(22)) {
            case 0: return x.feed(a, b, c, a, b) ? 1 : 0;
            case 1: return x.load(a, random.nextInt(40)) ? 1 : 0;
            case 2: return x.stow(random.nextInt(6) - 1, random.nextInt(600)) ? 1 : 0;
            case 3: return x.register(random.nextInt(20) - 1);
            case 4: return x.set(random.nextInt(19) - 1, a) ? 1 : 0;
            case 5: return x.special(random.nextInt(70) - 2);
            case 6: case 7: return x.write(random.nextInt(70) - 2, a) ? 1 : 0;
            case 8: return x.memory(a, random.nextInt(10));
            case 9: return x.where(a, b, random.nextBoolean());
            case 10: return x.key(a) ? 1 : 0;
            case 11: return x.typed(random.nextInt(70) - 2);
            case 12: return x.go(random.nextInt(6000)) ? 1 : 0;
            case 13: return x.halt() ? 1 : 0;
            case 14: return x.proceed() ? 1 : 0;
            case 15: return x.boot(random.nextInt(6) - 1, random.nextInt(4), a) ? 1 : 0;
            case 16: return x.keep(random.nextInt(4) - 1) ? 1 : 0;
            case 17: return x.back(random.nextInt(4) - 1) ? 1 : 0;
            case 18: return x.disk(random.nextInt(6) - 1, b);
            case 19: return x.kept(random.nextInt(34) - 1, random.nextInt(5) - 1);
            case 20: return x.state(random.nextInt(10) - 1);
            default: return x.run(a);
        }
    }

    /** Calls that must be refused in any state: nothing may change. */
    private static void refusals(RingComputer x) {
        due("refused load", x.load(-1, 1) ? 1 : 0, 0);
        due("refused load", x.load(0, 0) ? 1 : 0, 0);
        due("refused load", x.load(0, 1001) ? 1 : 0, 0);
        due("refused stow", x.stow(-1, 1) ? 1 : 0, 0);
        due("refused stow", x.stow(64, 1) ? 1 : 0, 0);
        due("refused stow", x.stow(0, 513) ? 1 : 0, 0);
        due("refused run", x.run(0), -1);
        due("refused run", x.run(2001), -1);
        due("refused set", x.set(17, 5) ? 1 : 0, 0);
        due("refused set", x.set(-1, 5) ? 1 : 0, 0);
        due("refused write", x.write(19, 5) ? 1 : 0, 0);
        due("refused write", x.write(26, 5) ? 1 : 0, 0);
        due("refused write", x.write(62, 5) ? 1 : 0, 0);
        due("refused key", x.key(256) ? 1 : 0, 0);
        due("refused key", x.key(-1) ? 1 : 0, 0);
        due("refused boot", x.boot(0, 0, 0) ? 1 : 0, 0);
        due("refused boot", x.boot(0, Integer.MAX_VALUE, 0) ? 1 : 0, 0);
        due("refused keep", x.keep(2) ? 1 : 0, 0);
        due("refused back", x.back(-1) ? 1 : 0, 0);
    }

    private static void round(int seed) {
        Random random = new Random(seed);
        int pages = 16 + random.nextInt(4) * 8;
        int sectors = random.nextInt(5);
        RingComputer x = new RingComputer(pages, sectors);
        fillMemory(x, random, pages);
        tables(x, random, pages);
        x.write(17, random.nextInt(4) == 0 ? 0 : 0x600);
        for (int k = 0; k < 5; k++) {
            x.write(k, random.nextInt(pages * 512));
        }
        x.write(56, random.nextInt(2));
        for (int k = 0; k < 14; k++) {
            x.set(k, someInt(random));
        }
        x.set(16, random.nextInt());
        x.set(14, random.nextInt(pages * 512));
        for (int i = 0; i < 60; i++) {
            if (random.nextInt(3) == 0) {
                x.halt();
                x.go(random.nextInt(pages * 512));
            }
            if (random.nextInt(4) == 0) {
                x.set(16, random.nextInt(3) == 0 ? random.nextInt() : random.nextInt() & 0x00C000FF);
                x.set(14, random.nextInt(pages * 512));
                x.set(random.nextInt(14), someInt(random));
            }
            x.run(1 + random.nextInt(i % 10 == 0 ? 300 : 6));
            call(x, random);
            due("bits of STATUS that are always 0", x.register(16) & ~0x4FDF00FFL, 0);
        }
        long before = digest(x, pages, sectors, true);
        refusals(x);
        due("seed " + seed + ": refused calls change nothing", digest(x, pages, sectors, true), before);
        x.keep(0);
        long[] first = later(x, seed, pages, sectors);
        x.back(0);
        int tape = x.state(5);
        while (x.state(5) > 0) {
            x.load(0, 1);
            x.back(0);
        }
        long[] again = later(x, seed, pages, sectors);
        x.back(0);
        long[] third = later(x, seed, pages, sectors);
        due("seed " + seed + ": goes on alike from what was kept", third[0], again[0]);
        due("seed " + seed + ": steps alike", first[1], again[1]);
        due("tape is not kept", tape >= 0 ? 1 : 0, 1);
    }

    private static long[] later(RingComputer x, int seed, int pages, int sectors) {
        Random random = new Random(seed * 31L);
        long ran = 0;
        for (int i = 0; i < 10; i++) {
            x.halt();
            x.go(random.nextInt(pages * 512));
            ran = ran * 2001 + x.run(20);
        }
        return new long[] {digest(x, pages, sectors, true), ran};
    }

    public static void main(String[] args) {
        int rounds = args.length > 0 ? Integer.parseInt(args[0]) : 1500;
        for (int seed = 0; seed < rounds; seed++) {
            try {
                round(seed);
            } catch (RuntimeException e) {
                wrong++;
                System.out.println("seed " + seed + " threw " + e + " " + e.getStackTrace()[0] + e.getStackTrace()[1]);
            }
        }
        System.out.println(wrong == 0 ? "fuzz: all answers are as due" : wrong + " answers are not as due");
        if (wrong != 0) {
            System.exit(1);
        }
    }
}
