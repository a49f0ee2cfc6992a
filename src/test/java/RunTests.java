import java.util.ArrayList;
import java.util.List;
import java.util.Random;

/**
 * Whole runs of random calls, each answer compared with the second computer's: small numbers and wild ones, programs in low
 * memory, handlers, maps, devices, all that a console can do in between.
 */
public final class RunTests {
    private static final int[] OPERATORS = {2, 2, 4, 5, 6, 7, 0xB8, 0xBB, 0xBC, 0xBD, 0xBE, 0xBF, 0xDA, 0xDA, 0xDB, 0xDB, 0x28,
        0x2C, 0x3A, 0x39, 0x38, 0x20, 0x0E, 0x0F, 0x5C, 0x5E, 0xFA, 0xFB, 0xF5, 0xC0, 0xD0, 0xDD, 0x11};
    private static final int[] CONTROLS = {0x41, 0x51, 0x61, 0x71, 0xD1, 0x40, 0x42, 0x01, 0x02, 0x81, 0xE0, 0x30, 0x20, 0xC1};
    private static final int VECTORS = 0x400;
    private static final int HANDLERS = 0x600;
    private static final int TABLE = 0x800;

    private final Random random;
    private final RingComputer x;
    private final ModelConsole y;
    private final List<String> told = new ArrayList<>();
    private final boolean tiny;
    /** The less, the more of what a program has is anything. */
    private final int wild;
    private int calls;
    private boolean right = true;

    private static long compared = 0;
    private static int wrong = 0;

    private RunTests(long seed) {
        random = new Random(seed);
        tiny = random.nextInt(4) == 0;
        wild = 1 << random.nextInt(6);
        int pages = random.nextInt(3) == 0 ? random.nextInt(140) - 5 : 8 + random.nextInt(12);
        int sectors = random.nextInt(70) - 2;
        x = new RingComputer(pages, sectors);
        y = new ModelConsole(pages, sectors);
        told.add("seed " + seed + ": new RingComputer(" + pages + ", " + sectors + ")");
    }

    private static long truth(boolean is) {
        return is ? 1 : 0;
    }

    private long due(String name, int... a) {
        switch (name) {
            case "feed": return truth(x.feed(a[0], a[1], a[2], a[3], a[4]));
            case "load": return truth(x.load(a[0], a[1]));
            case "stow": return truth(x.stow(a[0], a[1]));
            case "run": return x.run(a[0]);
            case "register": return x.register(a[0]);
            case "set": return truth(x.set(a[0], a[1]));
            case "special": return x.special(a[0]);
            case "write": return truth(x.write(a[0], a[1]));
            case "memory": return x.memory(a[0], a[1]);
            case "where": return x.where(a[0], a[1], a[2] != 0);
            case "key": return truth(x.key(a[0]));
            case "typed": return x.typed(a[0]);
            case "go": return truth(x.go(a[0]));
            case "halt": return truth(x.halt());
            case "proceed": return truth(x.proceed());
            case "boot": return truth(x.boot(a[0], a[1], a[2]));
            case "keep": return truth(x.keep(a[0]));
            case "back": return truth(x.back(a[0]));
            case "disk": return x.disk(a[0], a[1]);
            case "kept": return x.kept(a[0], a[1]);
            default: return x.state(a[0]);
        }
    }

    /** Makes a call on both, unless the object has been used for as many calls as are promised. */
    private void call(String name, int... a) {
        if (calls >= 512 || !right) {
            return;
        }
        calls++;
        long got = due(name, a);
        long want = y.call(name, a);
        StringBuilder text = new StringBuilder(name).append('(');
        for (int i = 0; i < a.length; i++) {
            text.append(i == 0 ? "" : ", ").append(a[i]);
        }
        told.add(text.append(") answered ").append(got).toString());
        compared++;
        if (got != want) {
            right = false;
            wrong++;
            if (wrong < 4) {
                told.forEach(System.out::println);
                System.out.println("  due is " + want);
            }
        }
    }

    private int number() {
        switch (random.nextInt(tiny ? 7 : 12)) {
            case 0: return random.nextInt(3);
            case 1: return -1 - random.nextInt(5);
            case 2: case 3: return random.nextInt(18);
            case 4: return 1 << random.nextInt(32);
            case 5: return y.bytes() - random.nextInt(12);
            case 6: return 512 * random.nextInt(6) + random.nextInt(9) - 4;
            case 7: return random.nextInt(y.bytes());
            case 8: return 0x80000000 + random.nextInt(y.bytes());
            case 9: return 0x40000000 + (0x1FFFE0 << 9) + random.nextInt(16384);
            case 10: return VECTORS + random.nextInt(0x800);
            default: return random.nextInt();
        }
    }

    private int status() {
        int mode = random.nextInt(3) == 0 ? random.nextInt(4) : 0;
        int level = random.nextInt(3) == 0 ? random.nextInt(32) : 0;
        int low = random.nextInt(2) == 0 ? random.nextInt(256) : 0;
        int more = random.nextInt(6) == 0 ? 1 << random.nextInt(32) : 0;
        int before = random.nextInt(2) == 0 ? 3 : random.nextInt(4);
        return mode << 24 | before << 22 | level << 16 | low | more | (mode == 0 ? random.nextInt(2) << 26 : 0);
    }

    private int specifier(char how) {
        if (random.nextInt(wild) == 0) {
            return random.nextInt(256);
        }
        int[] fine = {5, 5, 5, 5, 6, 6, 7, 8, 10, 12};
        int m = fine[random.nextInt(fine.length)];
        int n = m == 7 && random.nextInt(4) == 0 ? 14 : random.nextInt(12);
        if (how == 'r' && random.nextInt(4) == 0) {
            return random.nextInt(64);
        }
        return (how == 'a' && m == 5 ? 6 : m) << 4 | n;
    }

    /** Bytes of a program: an opcode and what its operands may begin with, or anything. */
    private byte[] program(int most) {
        byte[] code = new byte[most];
        int n = 0;
        while (n < most) {
            int opcode = random.nextInt(3) == 0 ? OPERATORS[random.nextInt(OPERATORS.length)] : random.nextInt(256);
            String format = Model.FORMATS[opcode];
            boolean leaves = opcode == 0 || opcode >= 2 && opcode < 8 || opcode == 0x16 || opcode == 0x17 || opcode >= 0xFA;
            if ((format == null || leaves) && random.nextInt(wild) > 0) {
                continue;
            }
            code[n++] = (byte) opcode;
            for (int i = 0; format != null && i < format.length() && n < most; i += 3) {
                n = operand(code, n, format.charAt(i), format.charAt(i + 1), opcode);
            }
        }
        if (most > 3 && random.nextInt(wild) > 0) {
            code[most - 3] = 0x31;
            code[most - 2] = (byte) -most;
            code[most - 1] = (byte) (-most >> 8);
        }
        return code;
    }

    private int operand(byte[] code, int at, char how, char type, int opcode) {
        int n = at;
        int size = how == 'j' ? 0 : Model.size(type);
        boolean ofSpecial = (opcode == 0xDA || opcode == 0xDB) && how == 'r' && random.nextInt(4) > 0;
        int specifier = ofSpecial || how == 'r' && random.nextInt(3) == 0 ? 0x8F : how == 'j' ? 0 : specifier(how);
        if (how != 'j') {
            code[n++] = (byte) specifier;
        }
        int follow = how == 'j' ? Model.size(type) : specifier == 0x8F ? size : specifier == 0x9F ? 4
            : specifier < 0xA0 ? 0 : specifier < 0xC0 ? 1 : specifier < 0xE0 ? 2 : 4;
        int value = how == 'j' ? random.nextInt(10) : random.nextInt(3) > 0 && ofSpecial ? special()
            : specifier != 0x8F ? random.nextInt(60) - 20 : number();
        for (int i = 0; i < follow && n < code.length; i++) {
            code[n++] = (byte) (i < 4 ? value >> 8 * i : value >> 31);
        }
        return n;
    }

    private int special() {
        return random.nextInt(4) == 0 ? CONTROLS[random.nextInt(CONTROLS.length)] : random.nextInt(64);
    }

    private void load(int address, byte[] bytes) {
        for (int i = 0; i < bytes.length; i += 20) {
            int[] five = new int[5];
            for (int k = 0; k < 20 && i + k < bytes.length; k++) {
                five[k / 4] |= (bytes[i + k] & 255) << 24 - k % 4 * 8;
            }
            call("feed", five);
        }
        call("load", address, bytes.length);
    }

    /** Vectors, handlers that go back, entries of a map and stacks, as a system would have them. */
    private void system() {
        byte[] vectors = new byte[260];
        for (int i = 0; i < 65; i++) {
            int vector = HANDLERS + 32 * random.nextInt(4) + (random.nextInt(8) == 0 ? random.nextInt(4) : random.nextInt(2));
            vectors[4 * i] = (byte) vector;
            vectors[4 * i + 1] = (byte) (vector >> 8);
        }
        load(VECTORS, vectors);
        int[] parts = {0xD0, 0x8E, 0x5A, 0x02, 0xC0, 0x08, 0x5E, 0x02, 0x02, 0xC0, 0x04, 0x5E, 0x02};
        byte[] handlers = program(128);
        for (int i = 0; i < 128; i += 32) {
            int from = random.nextInt(3) * 4;
            for (int k = 0; k < 8 && from + k < parts.length && random.nextInt(8) > 0; k++) {
                handlers[i + k] = (byte) parts[from + k];
            }
        }
        load(HANDLERS, handlers);
        call("write", 17, VECTORS);
        call("write", 19, random.nextInt(5));
        for (int k = 0; k < 5; k++) {
            call("write", k, random.nextInt(4) == 0 ? number() : 0xE00 + 64 * k + random.nextInt(8));
        }
        for (int k = 0; k < 12; k++) {
            call("set", k, random.nextInt(wild) == 0 ? number() : 0xA00 + random.nextInt(y.bytes() - 0xA00));
        }
        if (random.nextBoolean()) {
            map();
        }
    }

    private void map() {
        byte[] table = new byte[160];
        for (int i = 0; i < 40; i++) {
            int page = random.nextInt(12) == 0 ? random.nextInt(1 << 21) : i % 20 % (y.bytes() / 512);
            int code = random.nextInt(4) == 0 ? random.nextInt(16) : 4;
            int entry = (random.nextInt(10) == 0 ? 0 : 1 << 31) | code << 27 | random.nextInt(2) << 26 | page;
            for (int k = 0; k < 4; k++) {
                table[4 * i + k] = (byte) (entry >> 8 * k);
            }
        }
        load(TABLE, table);
        call("write", 12, TABLE);
        call("write", 13, 20 + random.nextInt(3));
        call("write", 8, 0x80000000 + TABLE + 80);
        call("write", 9, 10 + random.nextInt(10));
        call("write", 10, 0x80000000 + TABLE + 80 - 4 * 0x1FFFE0);
        call("write", 11, 0x1FFFE0 + random.nextInt(3));
        call("write", 56, 1);
        for (int k = 0; k < 5; k++) {
            int top = 0xE00 + 64 * k;
            call("write", k, random.nextInt(3) == 0 ? top : 0x80000000 + top);
        }
    }

    private void device() {
        int control = CONTROLS[random.nextInt(CONTROLS.length)];
        switch (random.nextInt(6)) {
            case 0: call("write", 20 + random.nextInt(35), control); break;
            case 1: call("write", 25, -1 - random.nextInt(5)); call("write", 24, 0x51); break;
            case 2: call("write", 34, 0x40); call("write", 35, control); break;
            case 3: call("write", 32, 0x40); call("key", control); break;
            case 4: call("write", 48, random.nextInt(4)); call("write", 49, 512 * random.nextInt(16)); break;
            default: call("write", 50, 0x40 + random.nextInt(4));
        }
    }

    private void any() {
        switch (random.nextInt(30)) {
            case 0: call("feed", number(), number(), number(), number(), number()); break;
            case 1: call("load", number(), 1 + random.nextInt(40)); break;
            case 2: call("stow", random.nextInt(6) - 1, 1 + random.nextInt(40)); break;
            case 3: case 4: case 5: case 6: call("run", random.nextInt(6) == 0 ? number() : 1 + random.nextInt(9)); break;
            case 7: call("register", random.nextInt(19) - 1); break;
            case 8: case 9: call("set", random.nextInt(19) - 1, number()); break;
            case 10: call("set", 16, status()); break;
            case 11: call("special", random.nextInt(66) - 1); break;
            case 12: case 13: call("write", random.nextInt(66) - 1, number()); break;
            case 14: device(); break;
            case 15: call("memory", number(), 1 << random.nextInt(4)); break;
            case 16: call("where", number(), number(), random.nextInt(2)); break;
            case 17: call("key", number()); break;
            case 18: call("typed", random.nextInt(4) - 1); break;
            case 19: case 20: call("go", random.nextInt(3) == 0 ? number() : 0x200); break;
            case 21: call("halt"); break;
            case 22: case 23: call("proceed"); break;
            case 24: call("boot", random.nextInt(4) - 1, random.nextInt(4), random.nextInt(3) == 0 ? number() : 512); break;
            case 25: call("keep", random.nextInt(4) - 1); break;
            case 26: call("back", random.nextInt(4) - 1); break;
            case 27: call("disk", random.nextInt(6) - 1, random.nextInt(514) - 1); break;
            case 28: call("kept", random.nextInt(34) - 1, random.nextInt(5) - 1); break;
            default: call("state", random.nextInt(10) - 1);
        }
    }

    private void looks() {
        for (int k = 0; k <= 16; k++) {
            call("register", k);
        }
        for (int k = 0; k < 8; k++) {
            call("state", k);
        }
    }

    private void all() {
        looks();
        for (int k = 0; k < 63; k++) {
            call("special", k);
        }
        for (int k = 0; k < 32; k++) {
            call("kept", k, 1 + random.nextInt(2));
        }
        for (int k = 0; calls < 512 && right; k++) {
            call("memory", k < 60 ? 8 * k : 8 * random.nextInt(y.bytes() / 8), 8);
        }
    }

    private void whole() {
        if (!tiny && random.nextInt(4) > 0) {
            system();
        }
        for (int part = 0; part < 3; part++) {
            load(tiny ? random.nextInt(20) : 0x200, program(20 + random.nextInt(100)));
            for (int i = 0; i < 12; i++) {
                any();
            }
            call("set", 14, tiny ? number() : 0xF00);
            for (int i = 0; i < 6; i++) {
                if (random.nextInt(3) == 0) {
                    call("set", 16, status());
                }
                if (y.halted()) {
                    call("go", tiny ? random.nextInt(20) : 0x200);
                }
                call("run", 1 + random.nextInt(random.nextInt(4) == 0 ? 200 : 12));
                device();
            }
            looks();
        }
        all();
    }

    public static void main(String[] args) {
        int first = args.length > 1 ? Integer.parseInt(args[1]) : 0;
        int runs = args.length > 0 ? Integer.parseInt(args[0]) : 3000;
        for (int seed = first; seed < first + runs && wrong < 20; seed++) {
            new RunTests(seed).whole();
        }
        System.out.println(wrong == 0 ? "runs: " + compared + " answers are as due" : wrong + " runs have a wrong answer");
        if (wrong != 0) {
            System.exit(1);
        }
    }
}
