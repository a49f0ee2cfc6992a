import java.util.ArrayList;
import java.util.Arrays;
import java.util.List;
import java.util.Random;
import java.util.function.ToLongFunction;

/**
 * RingComputer against the second computer, Model: random instructions with operands of every manner, in all modes, with
 * and without maps, all that can be seen compared.
 */
public final class ModelTests {
    static final int PAGES = 24;
    static final int SECTORS = 3;
    static final int VECTORS = 0x400;
    static final int SYSTEM_TABLE = 0x800;
    static final int PROCESS_TABLE = 0xA00;
    static final int DATA = 0x1200;
    static final int FILLED = 0x510;
    static final int LOOKS = 200;

    static int wrong = 0;
    static long compared = 0;
    static final int[] ENDS = new int[256];

    static final class Pair {
        final RingComputer x = new RingComputer(PAGES, SECTORS);
        final Model m = new Model(PAGES, SECTORS);
        /** All calls that changed x, so that others can be made like it: each object is used for few calls. */
        final List<ToLongFunction<RingComputer>> done = new ArrayList<>();
        final Random random;
        byte[] atFirst;
        boolean mapped;
        String last = "";

        Pair(long seed) {
            random = new Random(seed);
        }

        long call(ToLongFunction<RingComputer> one) {
            done.add(one);
            return one.applyAsLong(x);
        }

        RingComputer another() {
            RingComputer y = new RingComputer(PAGES, SECTORS);
            for (ToLongFunction<RingComputer> one : done) {
                one.applyAsLong(y);
            }
            return y;
        }

        void bytes(int address, byte[] values) {
            for (int from = 0; from < values.length; from += 900) {
                int n = Math.min(900, values.length - from);
                for (int i = 0; i < n; i += 20) {
                    int[] five = new int[5];
                    for (int k = 0; k < 20 && i + k < n; k++) {
                        five[k / 4] |= (values[from + i + k] & 255) << 24 - k % 4 * 8;
                    }
                    call(y -> y.feed(five[0], five[1], five[2], five[3], five[4]) ? 1 : 0);
                }
                int place = address + from;
                call(y -> y.load(place, n) ? 1 : 0);
                System.arraycopy(values, from, m.memory, place, n);
            }
        }

        void longs(int address, int... values) {
            byte[] out = new byte[4 * values.length];
            for (int i = 0; i < out.length; i++) {
                out[i] = (byte) (values[i / 4] >> i % 4 * 8);
            }
            bytes(address, out);
        }

        void set(int k, int v) {
            call(y -> y.set(k, v) ? 1 : 0);
            if (k == 16) {
                m.status(v & 0x4FDF00FF);
            } else {
                m.r[k] = v;
            }
        }

        void special(int k, int v) {
            long a = call(y -> y.write(k, v) ? 1 : 0);
            same("write " + k, a, m.writeSpecial(k, v) ? 1 : 0);
        }

        void complain(String what, long got, long due) {
            wrong++;
            if (wrong < 25) {
                System.out.println(last + ": " + what + " is " + Long.toHexString(got) + ", due is " + Long.toHexString(due));
            }
        }

        void same(String what, long got, long due) {
            compared++;
            if (got != due) {
                complain(what, got, due);
            }
        }

        /** What each instruction is looked at for. */
        void compare() {
            for (int k = 0; k < 16; k++) {
                same("R" + k, x.register(k), m.r[k] & 0xFFFFFFFFL);
            }
            same("STATUS", x.register(16), m.status & 0xFFFFFFFFL);
            same("halted", x.state(0), m.halted);
            same("steps", x.state(1), m.steps);
            same("taken", x.state(2), m.taken);
            same("latest", x.state(3), m.latest);
            same("ended", x.state(7), m.ended);
        }

        /** All else, on others that were made alike: the whole memory now and then, or what the model changed. */
        void compareAll(boolean whole) {
            RingComputer y = another();
            same("typed", y.state(4), m.typed.size());
            same("kept", y.state(6), m.kept.size());
            for (int k = 0; k < 64; k++) {
                Integer v = m.readSpecial(k);
                same("special " + k, y.special(k), v == null ? -1 : v & 0xFFFFFFFFL);
            }
            for (int k = 0; k < 32; k++) {
                int[] e = m.kept.get(k);
                same("kept " + k, y.kept(k, 1), e == null ? -1 : e[0] & 0xFFFFFFFFL);
                same("kept entry " + k, y.kept(k, 2), e == null ? -1 : e[1] & 0xFFFFFFFFL);
            }
            int looks = 0;
            y = another();
            for (int a = 0; a < m.memory.length; a += 8) {
                if (looks == LOOKS) {
                    looks = 0;
                    y = another();
                }
                long v = wordAt(m.memory, a);
                if (whole || v != wordAt(atFirst, a) || random.nextInt(64) == 0) {
                    same("memory " + Integer.toHexString(a), y.memory(a, 8), v);
                    looks++;
                }
            }
        }

        long wordAt(byte[] row, int a) {
            long v = 0;
            for (int i = 7; i >= 0; i--) {
                v = v << 8 | row[a + i] & 255;
            }
            return v;
        }

        int pointer() {
            int a = random.nextInt(5) == 0 ? 0x1400 + 512 * random.nextInt(10) - random.nextInt(20) : DATA + random.nextInt(0x1A00);
            a = random.nextInt(3) == 0 ? a & ~7 : a;
            if (!mapped) {
                return random.nextInt(40) == 0 ? random.nextInt() : random.nextInt(30) == 0 ? PAGES * 512 - random.nextInt(12) : a;
            }
            int region = random.nextInt(12);
            if (region == 0) {
                return 0x80000000 | a;
            }
            if (region == 1) {
                return 0x40000000 + (0x1FFFE0 << 9) + random.nextInt(32 * 512);
            }
            return region == 2 && random.nextInt(4) == 0 ? random.nextInt() : a;
        }

        /** A row of bytes that is moved on through memory by an instruction, so that it takes few calls to fill it. */
        void fillMemory() {
            byte[] row = new byte[197];
            for (int i = 0; i < row.length; i++) {
                row[i] = (byte) (random.nextInt(3) == 0 ? random.nextInt(256) : random.nextInt(10) << 4 | random.nextInt(10));
            }
            bytes(FILLED, row);
            int many = PAGES * 512 - FILLED - row.length;
            used = 0;
            emit(0x28, 0x8F);
            emitLong(many, 2);
            emit(0x9F);
            emitLong(FILLED, 4);
            emit(0x9F);
            emitLong(FILLED + row.length, 4);
            bytes(0x200, Arrays.copyOf(code, used));
            call(y -> y.go(0x200) ? 1 : 0);
            int steps = many / 100 + 1;
            same("run", call(y -> y.run(steps)), steps);
            for (int i = 0; i < many; i++) {
                m.memory[FILLED + row.length + i] = m.memory[FILLED + i];
            }
            m.steps = steps;
            m.ended = 1;
            m.halted = 0;
        }

        void setUp() {
            mapped = random.nextInt(3) > 0;
            fillMemory();
            int[] vectors = new int[65];
            for (int i = 0; i < 65; i++) {
                int low = random.nextInt(8) == 0 ? random.nextInt(4) : random.nextInt(2);
                vectors[i] = 0x600 | low;
            }
            longs(VECTORS, vectors);
            special(17, VECTORS);
            int[] system = new int[PAGES + 8];
            int[] process = new int[PAGES + 8];
            for (int i = 0; i < PAGES + 8; i++) {
                int flag = random.nextInt(12) == 0 ? 0 : 1 << 31;
                int code = random.nextInt(4) == 0 ? random.nextInt(16) : 4;
                int page = random.nextInt(30) == 0 ? random.nextInt(1 << 21) : i % PAGES;
                system[i] = flag | code << 27 | page | random.nextInt(2) << 26;
                flag = random.nextInt(12) == 0 && i != 0 ? 0 : 1 << 31;
                code = random.nextInt(5) == 0 ? random.nextInt(16) : 4;
                page = random.nextInt(30) == 0 ? random.nextInt(1 << 21) : i % PAGES;
                process[i] = flag | code << 27 | page | random.nextInt(2) << 26;
            }
            longs(SYSTEM_TABLE, system);
            longs(PROCESS_TABLE, process);
            set(16, 0);
            special(12, SYSTEM_TABLE);
            special(13, PAGES + 4);
            special(8, 0x80000000 | PROCESS_TABLE);
            special(9, PAGES + 6);
            special(10, 0x80000000 + PROCESS_TABLE - 4 * 0x1FFFE0);
            special(11, 0x1FFFE2);
            special(56, mapped ? 1 : 0);
            special(16, DATA + 0x100 + random.nextInt(4));
            special(19, random.nextInt(5));
            for (int k = 0; k < 5; k++) {
                special(k, pointer());
            }
            for (int k = 0; k < 14; k++) {
                set(k, random.nextInt(3) == 0 ? value() : pointer());
            }
            atFirst = m.memory.clone();
        }

        int value() {
            switch (random.nextInt(6)) {
                case 0: return random.nextInt();
                case 1: return random.nextInt(70) - 2;
                case 2: return 1 << random.nextInt(32);
                case 3: return -1 << random.nextInt(32);
                case 4: return random.nextInt(33);
                default: return random.nextInt(300);
            }
        }

        byte[] code = new byte[256];
        int used;

        void emit(int... values) {
            for (int v : values) {
                code[used++] = (byte) v;
            }
        }

        void emitLong(long v, int size) {
            for (int i = 0; i < size; i++) {
                emit((int) (v >> 8 * i));
            }
        }

        void operand(char how, char type, int at) {
            int size = Model.size(type);
            if (how == 'j') {
                emitLong(random.nextInt(), size);
                return;
            }
            if (random.nextInt(60) == 0) {
                emit(random.nextInt(256));
                return;
            }
            if (how == 'r' && random.nextInt(3) > 0) {
                int pick = random.nextInt(4);
                if (pick == 0) {
                    emit(random.nextInt(64));
                    return;
                }
                if (pick < 3) {
                    long v = "fdgh".indexOf(type) >= 0 ? floatBits() : value();
                    emit(0x8F);
                    emitLong(v, size);
                    return;
                }
            }
            if (how != 'a' && random.nextInt(3) == 0) {
                emit(0x50 | random.nextInt(size == 8 ? 14 : 15));
                return;
            }
            if (random.nextInt(8) == 0) {
                int n = random.nextInt(15);
                set(n == 14 ? 13 : n, random.nextInt(20) - 8);
                emit(0x40 | (n == 14 ? 13 : n));
            }
            int n = random.nextInt(14);
            int target = pointer();
            switch (random.nextInt(7)) {
                case 0 -> { set(n, target); emit(0x60 | n); }
                case 1 -> { set(n, target); emit(0x70 | n); }
                case 2 -> { set(n, target); emit(0x80 | n); }
                case 3 -> { emit(0x9F); emitLong(target, 4); }
                case 4 -> {
                    int width = random.nextInt(3);
                    emit(0xA0 + 0x20 * width | n);
                    int by = random.nextInt(200) - 100;
                    set(n, target - by);
                    emitLong(by, 1 << width);
                }
                case 5 -> {
                    emit(0xEF);
                    emitLong(target - (at + used + 4), 4);
                }
                default -> {
                    int holder = DATA + 0x200 + 4 * random.nextInt(32);
                    longs(holder, target);
                    int pick = random.nextInt(3);
                    if (pick == 0) {
                        set(n, holder);
                        emit(0x90 | n);
                    } else if (pick == 1) {
                        set(n, holder - 5);
                        emit(0xB0 | n, 5);
                    } else {
                        emit(0xFF);
                        emitLong(holder - (at + used + 4), 4);
                    }
                }
            }
        }

        long floatBits() {
            long v = random.nextLong();
            int e = random.nextInt(5) == 0 ? random.nextInt(256) : 110 + random.nextInt(40);
            v = v & ~0x7F80L | (long) e << 7;
            if (random.nextInt(3) == 0) {
                v &= 0xFFFF;
            }
            return e == 0 && random.nextInt(4) > 0 ? v & ~0x8000L : v;
        }

        /** A decimal of so many digits, mostly fit. */
        void decimalAt(int address, int count) {
            if (address < 0 || address > PAGES * 512 - 17) {
                return;
            }
            byte[] out = new byte[count / 2 + 1];
            for (int i = 0; i < out.length; i++) {
                out[i] = (byte) (random.nextInt(10) << 4 | random.nextInt(10));
                if (random.nextInt(8) == 0) {
                    out[i] = 0;
                }
            }
            int last = out.length - 1;
            out[last] = (byte) (out[last] & 0xF0 | (random.nextInt(25) == 0 ? random.nextInt(16) : 10 + random.nextInt(6)));
            if (count % 2 == 0) {
                out[0] = (byte) (out[0] & 15 | random.nextInt(16) << 4);
            }
            bytes(address, out);
        }

        /** A sign and so many characters, mostly fit. */
        void charactersAt(int address, int count) {
            if (address < 0 || address > PAGES * 512 - 33) {
                return;
            }
            byte[] out = new byte[count + 1];
            for (int i = 1; i < out.length; i++) {
                out[i] = (byte) (random.nextInt(200) == 0 ? random.nextInt(256) : '0' + random.nextInt(10));
            }
            out[0] = (byte) (random.nextInt(20) == 0 ? random.nextInt(256) : "+- ".charAt(random.nextInt(3)));
            bytes(address, out);
        }

        /** Operands of strings and decimals: short counts and good addresses. */
        void stringOperand(char how, char type, boolean decimal, int[] count, int many) {
            if (how == 'r' && type == 'w') {
                count[0] = decimal ? random.nextInt(25) == 0 ? random.nextInt(70) : random.nextInt(32)
                    : random.nextInt(10) == 0 ? random.nextInt(300) : random.nextInt(14);
                if (count[0] < 64) {
                    emit(count[0]);
                } else {
                    emit(0x8F);
                    emitLong(count[0], 2);
                }
            } else if (how == 'r' && type == 'b') {
                emit(random.nextInt(4) == 0 ? random.nextInt(64) : random.nextInt(10));
            } else if (how == 'a') {
                int target = pointer();
                if (decimal && code[0] == 0x09 && many == 1) {
                    charactersAt(target, Math.min(count[0], 31));
                } else if (decimal) {
                    decimalAt(target, Math.min(count[0], 31));
                }
                if (random.nextInt(3) == 0) {
                    int n = 6 + random.nextInt(6);
                    set(n, target);
                    emit(0x60 | n);
                } else {
                    emit(0x9F);
                    emitLong(target, 4);
                }
            } else {
                emit(0x50 | random.nextInt(14));
            }
        }

        void pattern(int address) {
            if (address < 0 || address > PAGES * 512 - 80) {
                return;
            }
            byte[] out = new byte[60];
            int digits = m.w(0);
            int at = 0;
            while (at < 50 && digits > 0) {
                int pick = random.nextInt(12);
                if (pick < 6) {
                    int many = random.nextInt(60) == 0 ? 1 + random.nextInt(15) : Math.min(1 + random.nextInt(9), digits);
                    out[at++] = (byte) ((random.nextBoolean() ? 0x90 : 0xA0) + many);
                    digits -= many;
                } else if (pick < 9) {
                    out[at++] = (byte) (4 + random.nextInt(5));
                    out[at++] = (byte) random.nextInt(6);
                } else if (pick == 9) {
                    out[at++] = (byte) (0x81 + random.nextInt(4));
                } else {
                    out[at++] = (byte) (1 + random.nextInt(3));
                }
                if (random.nextInt(120) == 0) {
                    out[at++] = (byte) random.nextInt(256);
                }
            }
            out[at] = 0;
            bytes(address, out);
        }

        void one() {
            int opcode;
            do {
                opcode = random.nextInt(256);
            } while (Model.FORMATS[opcode] == null && random.nextInt(10) > 0);
            int at = 0x600 + random.nextInt(0x300);
            if (random.nextInt(8) == 0) {
                at = 0x1000 - 1 - random.nextInt(10);
            }
            used = 0;
            boolean string = opcode == 0x0B || opcode >= 0x28 && opcode < 0x30 || opcode >= 0x39 && opcode <= 0x3B;
            boolean decimal = opcode == 8 || opcode == 9 || opcode >= 0x20 && opcode < 0x28 || opcode >= 0x34 && opcode < 0x39
                || opcode == 0xF8 || opcode == 0xF9;
            int status = random.nextInt(4) == 0 ? random.nextInt() & 0x03DF00FF | random.nextInt(2) << 26
                : random.nextInt(2) * (3 << 24) | 3 << 22 | random.nextInt(256) & 0xEF;
            if (random.nextInt(12) == 0) {
                status |= 1 << 4;
            }
            if (random.nextInt(40) == 0) {
                status |= 1 << 30;
            }
            if (random.nextInt(string ? 8 : 80) == 0) {
                status |= 1 << 27;
            }
            if ((opcode < 8 || opcode == 0xDA || opcode == 0xDB) && random.nextInt(3) > 0) {
                status &= ~(3 << 24);
            }
            set(16, status);
            set(14, pointer());
            set(random.nextInt(14), random.nextBoolean() ? value() : pointer());
            emit(opcode);
            int[] count = {0};
            String format = Model.FORMATS[opcode] == null ? "" : Model.FORMATS[opcode];
            int k = 0;
            for (String one : format.split(" ")) {
                if (!one.isEmpty()) {
                    if ((string || decimal) && random.nextInt(12) > 0) {
                        stringOperand(one.charAt(0), one.charAt(1), decimal, count, k);
                    } else if (opcode >= 0xDA && opcode <= 0xDB && one.equals("rl") && k == (opcode == 0xDA ? 1 : 0)) {
                        emit(0x8F);
                        emitLong(random.nextInt(64), 4);
                    } else if (opcode >= 0xEA && opcode <= 0xF0 && random.nextInt(4) > 0 && one.charAt(0) == 'r') {
                        emit(0x8F);
                        emitLong(random.nextInt(36) - 2, one.equals("rb") ? 1 : 4);
                    } else {
                        operand(one.charAt(0), one.charAt(1), at);
                    }
                }
                k++;
            }
            prepare(opcode);
            bytes(at, Arrays.copyOf(code, used));
            if (m.halted == 0) {
                call(y -> y.halt() ? 1 : 0);
                m.halted = 3;
            }
            int place = at;
            call(y -> y.go(place) ? 1 : 0);
            m.r[15] = at;
            m.halted = 0;
            StringBuilder text = new StringBuilder(Integer.toHexString(opcode) + " at " + Integer.toHexString(at) + ":");
            for (int i = 0; i < used; i++) {
                text.append(String.format(" %02x", code[i] & 255));
            }
            last = text + (mapped ? " mapped" : "") + " status " + Integer.toHexString(m.status);
            int before = m.ended;
            int many = random.nextInt(4) == 0 ? 1 + random.nextInt(6) : 1;
            long ran = call(y -> y.run(many));
            int due = 0;
            for (int i = 0; i < many; i++) {
                due += m.halted == 0 ? 1 : 0;
                m.step();
            }
            if (many == 1) {
                ENDS[opcode] += m.ended - before;
            }
            same("run", ran, due);
            compare();
        }

        /** Queues, frames, blocks and patterns where an instruction looks for them. */
        void prepare(int opcode) {
            int sp = m.r[14];
            boolean reachable = sp >= DATA && sp < PAGES * 512 - 100;
            if (opcode == 2 && reachable && random.nextInt(5) > 0) {
                int cur = m.mode();
                int to = random.nextInt(3) == 0 ? random.nextInt(4) : Math.max(cur, random.nextInt(4));
                int fresh = to << 24 | 3 << 22 | random.nextInt(256) | random.nextInt(2) << 27;
                if (random.nextInt(6) == 0) {
                    fresh ^= 1 << random.nextInt(32);
                }
                if (to == 0 && random.nextInt(2) == 0) {
                    fresh |= random.nextInt(32) << 16 | m.status & 1 << 26;
                }
                longs(sp, random.nextInt(3) == 0 ? random.nextInt() : 0x700, fresh);
            }
            if (opcode == 4 && random.nextInt(6) > 0) {
                int fp = DATA + 0x400 + random.nextInt(64);
                set(13, fp);
                int frame = random.nextInt() & 0xFFFF00FF;
                longs(fp, 0, random.nextInt(10) == 0 ? frame | 256 : frame);
            }
            if ((opcode == 0xFA || opcode == 0xFB) && used > 6 && random.nextInt(3) > 0) {
                int procedure = DATA + 0x500 + random.nextInt(64);
                int low = code[used - 5] & 255;
                if (low == 0x9F) {
                    for (int i = 0; i < 4; i++) {
                        code[used - 4 + i] = (byte) (procedure >> 8 * i);
                    }
                    longs(procedure, random.nextInt() & (random.nextInt(5) > 0 ? 0xCFFF : 0xFFFF));
                }
            }
            if (opcode == 6 || opcode == 7) {
                special(16, random.nextInt(8) == 0 ? PAGES * 512 - 96 + random.nextInt(3) : DATA + 0x600);
                if (random.nextInt(4) > 0) {
                    longs(DATA + 0x600, DATA + 0x800, DATA + 0x900, DATA + 0xA00, DATA + 0xB00);
                    longs(DATA + 0x600 + 80, 0x80000000 | PROCESS_TABLE, PAGES + 6 | random.nextInt(8) << 24,
                        0x80000000 + PROCESS_TABLE - 4 * 0x1FFFE0, 0x1FFFE2);
                }
            }
            pushesThatFail(opcode);
            queueLinks(opcode);
            if (opcode == 0x38 && used > 11 && random.nextInt(8) > 0) {
                int at = DATA + 0x700 + random.nextInt(200);
                m.ops.clear();
                Model.Op op = new Model.Op();
                op.value = code[1] & 31;
                m.ops.add(op);
                pattern(at);
                used = 0;
                int digits = (int) op.value & 31;
                decimalAt(DATA + 0x6C0, digits);
                emit(0x38, digits, 0x9F);
                emitLong(DATA + 0x6C0, 4);
                emit(0x9F);
                emitLong(at, 4);
                emit(0x9F);
                emitLong(pointer(), 4);
            }
        }

        /** A stack whose pushes begin well and often fail later: just above memory's or a page's first byte. */
        void pushesThatFail(int opcode) {
            if (random.nextInt(3) > 0) {
                return;
            }
            int low = 512 * (mapped ? random.nextInt(PAGES + 2) : 0) + 1 + random.nextInt(24);
            if (opcode == 0xBB || opcode == 0xFA || opcode == 0xFB) {
                set(14, low);
            } else if (opcode == 0x06) {
                longs(DATA + 0x600, low);
            }
        }

        void queueLinks(int opcode) {
            boolean queue = opcode == 0x0E || opcode == 0x0F || opcode >= 0x5C && opcode <= 0x5F;
            if (!queue || random.nextInt(4) == 0) {
                return;
            }
            int h = DATA + 0x800;
            int[] places = {h, h + 0x20, h + 0x40, h + 0x60};
            int many = random.nextInt(4);
            for (int i = 0; i <= many; i++) {
                int next = places[(i + 1) % (many + 1)];
                int before = places[(i + many) % (many + 1)];
                boolean relative = opcode >= 0x5C;
                longs(places[i], relative ? next - places[i] : next, relative ? before - places[i] : before);
            }
            if (random.nextInt(10) == 0) {
                longs(places[random.nextInt(many + 1)] + 4 * random.nextInt(2), random.nextInt(64));
            }
            used = 0;
            emit(opcode);
            int entry = random.nextInt(8) == 0 ? pointer() : h + 0x100;
            int first = opcode == 0x0E || opcode == 0x5C || opcode == 0x5D ? entry
                : opcode == 0x0F ? places[random.nextInt(many + 1)] : h;
            emit(0x9F);
            emitLong(first, 4);
            if (opcode == 0x0E || opcode == 0x5C || opcode == 0x5D) {
                emit(0x9F);
                emitLong(opcode == 0x0E ? places[random.nextInt(many + 1)] : random.nextInt(12) == 0 ? h + 4 : h, 4);
            } else if (random.nextBoolean()) {
                emit(0x50 | random.nextInt(14));
            } else {
                emit(0x9F);
                emitLong(pointer(), 4);
            }
        }

        void probes() {
            for (int i = 0; i < 6; i++) {
                int va = pointer();
                int mode = random.nextInt(4);
                boolean write = random.nextBoolean();
                long due;
                try {
                    due = m.translate(va, write, mode, false, true);
                    due = due < 0 || due >= m.memory.length ? -100 : due;
                } catch (Model.Fault f) {
                    due = f.offset == 4 ? -100 : f.offset == 32 ? -1 - f.parameters[1] : -11 - f.parameters[1];
                }
                same("where", x.where(va, mode, write), due);
            }
            int k = random.nextInt(64);
            if (random.nextInt(4) == 0 && k > 19 && k < 56) {
                special(k, random.nextBoolean() ? value() : 0xC1);
            }
            if (random.nextInt(6) == 0) {
                same("key", call(y -> y.key(k) ? 1 : 0), m.key(k) ? 1 : 0);
            }
        }
    }

    public static void main(String[] args) {
        int seeds = args.length > 0 ? Integer.parseInt(args[0]) : 10000;
        for (int seed = 0; seed < seeds && wrong < 1000; seed++) {
            Pair pair = new Pair(seed);
            pair.setUp();
            for (int i = 0; i < 6; i++) {
                pair.one();
                pair.probes();
            }
            pair.compareAll(seed % 8 == 0);
        }
        if (args.length > 1) {
            for (int o = 0; o < 256; o++) {
                if (Model.FORMATS[o] != null) {
                    System.out.print(Integer.toHexString(o) + ":" + ENDS[o] + " ");
                }
            }
            System.out.println();
        }
        System.out.println(wrong == 0 ? "model: " + compared + " answers are as due" : wrong + " answers are not as due");
        if (wrong != 0) {
            System.exit(1);
        }
    }
}
