import java.math.BigInteger;
import java.util.ArrayList;
import java.util.Arrays;
import java.util.HashMap;
import java.util.List;
import java.util.Map;

/** A second computer, written another way than RingComputer (exceptions, big numbers, lists), to compare it with. */
final class Model {
    static final class Fault extends RuntimeException {
        private static final long serialVersionUID = 1;
        final int offset;
        final int[] parameters;

        Fault(int offset, int... parameters) {
            super(null, null, false, false);
            this.offset = offset;
            this.parameters = parameters;
        }
    }

    /** What is to be written: physical places, and the bytes. */
    record Write(int[] places, byte[] bytes) { }

    /** An operand: its kind (V value, R register, M memory), register or address, value, and places if translated. */
    static final class Op {
        char kind;
        int at;
        int size;
        long value;
        int[] places;
    }

    /** What operands each opcode has, as the document's table tells them. */
    static final String[] FORMATS = new String[256];

    static void format(String operands, int... opcodes) {
        for (int o : opcodes) {
            FORMATS[o] = operands;
        }
    }

    static void formats() {
        for (int k = 0; k < 3; k++) {
            String s = "bwl".substring(k, k + 1);
            int o = 0x80 + 0x20 * k;
            for (int i = 0; i < 14; i += 2) {
                format("r" + s + " m" + s, o + i);
                format("r" + s + " r" + s + " w" + s, o + i + 1);
            }
            format("r" + s + " w" + s, o + 14, o + 16, o + 18);
            format("r" + s + " r" + s + " r" + s, o + 15);
            format("r" + s + " r" + s, o + 17, o + 19);
            format("w" + s, o + 20);
            format("r" + s, o + 21);
            format("m" + s, o + 22, o + 23);
        }
        for (int k = 0; k < 2; k++) {
            String s = "fd".substring(k, k + 1);
            String t = "gh".substring(k, k + 1);
            int o = 0x40 + 0x20 * k;
            for (int i = 0; i < 8; i += 2) {
                format("r" + s + " m" + s, o + i);
                format("r" + s + " r" + s + " w" + s, o + i + 1);
            }
            format("r" + s + " wb", o + 8);
            format("r" + s + " ww", o + 9);
            format("r" + s + " wl", o + 10, o + 11);
            format("rb w" + s, o + 12);
            format("rw w" + s, o + 13);
            format("rl w" + s, o + 14);
            format("r" + s + " r" + s + " m" + s + " jw", o + 15);
            format("r" + t + " w" + t, o + 16);
            format("r" + s + " r" + s, o + 17);
            format("r" + s + " w" + s, o + 18);
            format("r" + s, o + 19);
        }
        format("rf wd", 0x56);
        format("rd wf", 0x76);
        format("", 0, 1, 2, 3, 4, 5, 6, 7);
        format("rb wl", 0x98, 0x9A);
        format("rb ww", 0x99, 0x9B);
        format("rw wl", 0x32, 0x3C);
        format("rw wb", 0x33);
        format("rl wb", 0xF6);
        format("rl ww", 0xF7);
        format("rb rl wl", 0x78, 0x9C);
        format("rb rq wq", 0x79);
        format("rl rl rl wq", 0x7A);
        format("rl rq wl wl", 0x7B);
        format("rl ml", 0xD8, 0xD9);
        format("rw mw", 0x58);
        format("wq", 0x7C);
        format("rq wq", 0x7D);
        format("rb rb mb jw", 0x9D);
        format("rw rw mw jw", 0x3D);
        format("rl rl ml jw", 0xF1);
        format("rl ml jb", 0xF2, 0xF3);
        format("ml jb", 0xF4, 0xF5);
        format("rl", 0xDD);
        format("ab wl", 0x9E);
        format("aw wl", 0x3E);
        format("al wl", 0xDE);
        format("aq wl", 0x7E, 0x5E, 0x5F);
        format("ab", 0x9F, 0x16, 0x17);
        format("aw", 0x3F);
        format("al", 0xDF);
        format("aq", 0x7F);
        format("wl", 0xDC);
        format("rw", 0xB8, 0xB9, 0xBA, 0xBB, 0xBC, 0xBD, 0xBE, 0xBF);
        format("rl rl rl rl rl wl", 0x0A);
        format("jb", 0x10, 0x11, 0x12, 0x13, 0x14, 0x15, 0x18, 0x19, 0x1A, 0x1B, 0x1C, 0x1D, 0x1E, 0x1F);
        format("jw", 0x30, 0x31);
        format("rl jb", 0xE8, 0xE9);
        format("rl vb jb", 0xE0, 0xE1, 0xE2, 0xE3, 0xE4, 0xE5, 0xE6, 0xE7);
        format("rl rb vb wl", 0xEA, 0xEB, 0xEE, 0xEF);
        format("rl rb vb rl", 0xEC, 0xED);
        format("rl rl rb vb", 0xF0);
        format("ab ab", 0x0E, 0xFA);
        format("ab wl", 0x0F);
        format("ab aq", 0x5C, 0x5D);
        format("rl ab", 0xFB);
        format("rw ab ab", 0x28, 0x29, 0x34, 0x35);
        format("rw ab rb rw ab", 0x2C, 0x2D);
        format("rw ab rb ab rw ab", 0x2E, 0x2F);
        format("rb rw ab", 0x3A, 0x3B, 0x0C, 0x0D);
        format("rw ab ab rb", 0x2A, 0x2B);
        format("rw ab rw ab", 0x39, 0x20, 0x22, 0x37, 0x08, 0x09);
        format("ab rl rw ab", 0x0B);
        format("rw ab rw ab rw ab", 0x21, 0x23, 0x25, 0x27);
        format("rl rw ab", 0xF9);
        format("rw ab wl", 0x36);
        format("rb rw ab rb rw ab", 0xF8);
        format("rw ab ab rw ab", 0x24, 0x26);
        format("rw ab ab ab", 0x38);
        format("rl rl", 0xDA);
        format("rl wl", 0xDB);
    }

    static {
        formats();
    }

    final int[] r = new int[16];
    int status = 0x041F0000;
    final int[] sp = new int[5];
    final byte[] memory;
    final byte[][] disk;
    final Map<Integer, int[]> kept = new HashMap<>();
    final Map<Integer, Integer> special = new HashMap<>();
    final List<Integer> typed = new ArrayList<>();
    int halted = 3;
    int steps;
    int taken;
    int latest;
    int ended;
    boolean clockAsks;
    boolean keyAsks;
    boolean typedAsks;
    boolean diskAsks;
    int typeIn;
    int diskIn;
    int diskWhat;

    int start;
    boolean rounds;
    List<Write> writes = new ArrayList<>();
    List<Runnable> registers = new ArrayList<>();
    int trap;

    Model(int pages, int sectors) {
        memory = new byte[512 * pages];
        disk = new byte[sectors][512];
        special.put(34, 128);
        special.put(50, 128);
    }

    /** All that there is of another one, which goes on alone. */
    static Model like(Model from) {
        Model to = new Model(from.memory.length / 512, from.disk.length);
        System.arraycopy(from.r, 0, to.r, 0, 16);
        System.arraycopy(from.sp, 0, to.sp, 0, 5);
        System.arraycopy(from.memory, 0, to.memory, 0, from.memory.length);
        for (int i = 0; i < from.disk.length; i++) {
            to.disk[i] = from.disk[i].clone();
        }
        from.kept.forEach((slot, entry) -> to.kept.put(slot, entry.clone()));
        to.special.clear();
        to.special.putAll(from.special);
        to.typed.addAll(from.typed);
        to.status = from.status;
        to.halted = from.halted;
        to.steps = from.steps;
        to.taken = from.taken;
        to.latest = from.latest;
        to.ended = from.ended;
        to.clockAsks = from.clockAsks;
        to.keyAsks = from.keyAsks;
        to.typedAsks = from.typedAsks;
        to.diskAsks = from.diskAsks;
        to.typeIn = from.typeIn;
        to.diskIn = from.diskIn;
        to.diskWhat = from.diskWhat;
        return to;
    }

    int sp(int k) {
        return special.getOrDefault(k, 0);
    }

    int mode() {
        return status >> 24 & 3;
    }

    int stack() {
        return (status >> 26 & 1) == 1 ? 4 : mode();
    }

    void status(int to) {
        sp[stack()] = r[14];
        status = to;
        r[14] = sp[stack()];
    }

    boolean bit(int n) {
        return (status >> n & 1) == 1;
    }

    void flags(boolean n, boolean z, boolean v, boolean c) {
        status = status & ~15 | (n ? 8 : 0) | (z ? 4 : 0) | (v ? 2 : 0) | (c ? 1 : 0);
    }

    void nz(long v) {
        flags(v < 0, v == 0, false, bit(0));
    }

    // ---- memory

    int physicalLong(int at) {
        int v = 0;
        for (int i = 0; i < 4; i++) {
            int a = at + i;
            if (a < 0 || a >= memory.length) {
                throw new Fault(4, a);
            }
            v |= (memory[a] & 255) << 8 * i;
        }
        return v;
    }

    boolean within(int region, int page) {
        return region == 0 ? page < sp(9) : region == 1 ? page >= sp(11) : region == 2 && page < sp(13);
    }

    static final String WRITE = "--0-310-210-210-";
    static final String READ = "--00311122223333";

    int translate(int va, boolean write, int mode, boolean keep, boolean validity) {
        if (sp(56) == 0) {
            return va;
        }
        int more = write ? 4 : 0;
        int region = va >>> 30;
        int page = (va & 0x3FFFFFFF) >>> 9;
        int slot = page % 16 + (region == 2 ? 16 : 0);
        int pageStart = va >>> 9 << 9;
        int[] known = kept.get(slot);
        int entry;
        int place;
        if (known != null && known[0] == pageStart) {
            entry = known[1];
            place = known[2];
        } else {
            if (region == 3 || !within(region, page)) {
                throw new Fault(32, va, 1 + more);
            }
            if (region == 2) {
                place = sp(12) + 4 * page;
            } else {
                int own = (region == 0 ? sp(8) : sp(10)) + 4 * page;
                int ownPage = (own & 0x3FFFFFFF) >>> 9;
                if (own >>> 30 != 2 || !within(2, ownPage)) {
                    throw new Fault(32, va, 3 + more);
                }
                int[] system = kept.get(16 + ownPage % 16);
                int systemEntry;
                if (system != null && system[0] == own >>> 9 << 9) {
                    systemEntry = system[1];
                } else {
                    int systemPlace = sp(12) + 4 * ownPage;
                    systemEntry = physicalLong(systemPlace);
                    if (systemEntry >>> 31 == 0) {
                        throw new Fault(36, va, 2 + more);
                    }
                    if (keep) {
                        kept.put(16 + ownPage % 16, new int[] {own >>> 9 << 9, systemEntry, systemPlace});
                    }
                }
                place = ((systemEntry & 0x1FFFFF) << 9) + (own & 511);
            }
            entry = physicalLong(place);
        }
        char up = (write ? WRITE : READ).charAt(entry >>> 27 & 15);
        if (up == '-' || mode > up - '0') {
            throw new Fault(32, va, more);
        }
        if (validity && entry >>> 31 == 0) {
            throw new Fault(36, va, more);
        }
        if (keep) {
            if (write && (entry >>> 26 & 1) == 0) {
                entry |= 1 << 26;
                memory[place + 3] |= 4;
            }
            kept.put(slot, new int[] {pageStart, entry, place});
        }
        return ((entry & 0x1FFFFF) << 9) + (va & 511);
    }

    int[] access(int va, int n, boolean write, int mode) {
        int[] places = new int[n];
        for (int i = 0; i < n; i++) {
            boolean fresh = i == 0 || (va + i & 511) == 0;
            places[i] = fresh ? translate(va + i, write, mode, true, true) : places[i - 1] + 1;
        }
        for (int p : places) {
            if (p < 0 || p >= memory.length) {
                throw new Fault(4, p);
            }
        }
        return places;
    }

    long value(int[] places) {
        long v = 0;
        for (int i = places.length - 1; i >= 0; i--) {
            v = v << 8 | memory[places[i]] & 255;
        }
        return v;
    }

    long read(int va, int n) {
        return value(access(va, n, false, mode()));
    }

    int readLong(int va) {
        return (int) read(va, 4);
    }

    int readByte(int va) {
        return (int) read(va, 1);
    }

    void write(int[] places, long v) {
        byte[] bytes = new byte[places.length];
        for (int i = 0; i < bytes.length; i++) {
            bytes[i] = (byte) (v >> 8 * i);
        }
        writes.add(new Write(places, bytes));
    }

    void writeTo(int va, int n, long v) {
        write(access(va, n, true, mode()), v);
    }

    void pop(int register) {
        r[register] = pop();
    }

    int pop() {
        int v = readLong(r[14]);
        r[14] += 4;
        return v;
    }

    /** Each push is an access that is done, also if a later one fails. */
    void push(int v) {
        r[14] -= 4;
        int[] places = access(r[14], 4, true, mode());
        for (int i = 0; i < 4; i++) {
            memory[places[i]] = (byte) (v >> 8 * i);
        }
    }

    // ---- specials

    Integer readSpecial(int k) {
        if (k >= 0 && k < 5) {
            return k == stack() ? r[14] : sp[k];
        }
        if (k == 18) {
            return status >> 16 & 31;
        }
        if (k == 62) {
            return 0x01000611;
        }
        int[] fine = {8, 9, 10, 11, 12, 13, 16, 17, 19, 21, 24, 26, 27, 32, 33, 34, 48, 49, 50, 56};
        return Arrays.binarySearch(fine, k) >= 0 ? (Integer) sp(k) : null;
    }

    void dropProcess() {
        kept.keySet().removeIf(k -> k < 16);
    }

    boolean writeSpecial(int k, int v) {
        switch (k) {
            case 0, 1, 2, 3, 4 -> {
                if (k == stack()) {
                    r[14] = v;
                } else {
                    sp[k] = v;
                }
            }
            case 8, 10 -> { special.put(k, v); dropProcess(); }
            case 9, 11 -> { special.put(k, v & 0x3FFFFF); dropProcess(); }
            case 12 -> { special.put(k, v); kept.clear(); }
            case 13 -> { special.put(k, v & 0x3FFFFF); kept.clear(); }
            case 16, 25, 27, 48, 49 -> special.put(k, v);
            case 17 -> special.put(k, v >> 9 << 9);
            case 18 -> status = status & 0xFFE0FFFF | (v & 31) << 16;
            case 19 -> {
                if (v < 0 || v > 4) {
                    return false;
                }
                special.put(k, v);
            }
            case 20 -> {
                if (v > 0 && v < 16) {
                    special.put(21, sp(21) | 1 << v);
                }
            }
            case 21 -> special.put(k, v & 0xFFFE);
            case 24 -> {
                int old = sp(24);
                int now = v & 0x41;
                if ((old & 0x80) != 0 && (v & 0x80) == 0) {
                    now |= 0x80;
                }
                if (old < 0 && v >= 0) {
                    now |= 1 << 31;
                }
                special.put(24, now);
                if ((v & 0x10) != 0) {
                    special.put(26, sp(25));
                }
                if ((v & 0x21) == 0x20) {
                    clockGrows();
                }
            }
            case 32, 34 -> {
                int old = sp(k);
                special.put(k, old & 0x80 | v & 0x40);
                if ((old & 0xC0) == 0x80 && (v & 0x40) != 0) {
                    if (k == 32) {
                        keyAsks = true;
                    } else {
                        typedAsks = true;
                    }
                }
            }
            case 35 -> {
                if ((sp(34) & 0x80) != 0) {
                    typed.add(v & 255);
                    special.put(34, sp(34) & 0x40);
                    typeIn = 3;
                }
            }
            case 50 -> {
                int old = sp(50);
                int now = old & 0x8080 | v & 0x40;
                if ((old & 0x80) != 0 && ((v & 3) == 1 || (v & 3) == 2)) {
                    now &= 0x40;
                    diskIn = 5;
                    diskWhat = v & 3;
                }
                special.put(50, now);
            }
            case 56 -> { special.put(k, v & 1); kept.clear(); }
            case 57 -> kept.clear();
            case 58 -> kept.values().removeIf(e -> e[0] == v >>> 9 << 9);
            default -> { return false; }
        }
        return true;
    }

    void clockGrows() {
        if (sp(26) == -1) {
            special.put(26, sp(25));
            int c = sp(24);
            special.put(24, c | 0x80 | ((c & 0x80) != 0 ? 1 << 31 : 0));
            clockAsks |= (c & 0x40) != 0;
        } else {
            special.put(26, sp(26) + 1);
        }
    }

    void devices() {
        if ((sp(24) & 1) == 1) {
            clockGrows();
        }
        if (sp(27) != 0) {
            special.put(27, sp(27) + 1);
        }
        if (typeIn > 0 && --typeIn == 0) {
            special.put(34, sp(34) | 0x80);
            typedAsks |= (sp(34) & 0x40) != 0;
        }
        if (diskIn > 0 && --diskIn == 0) {
            int sector = sp(48);
            int address = sp(49);
            boolean there = sector >= 0 && sector < disk.length && address >= 0 && (long) address + 512 <= memory.length;
            if (there && diskWhat == 1) {
                System.arraycopy(disk[sector], 0, memory, address, 512);
            } else if (there) {
                System.arraycopy(memory, address, disk[sector], 0, 512);
            }
            special.put(50, sp(50) | 0x80 | (there ? 0 : 0x8000));
            diskAsks |= (sp(50) & 0x40) != 0;
        }
    }

    boolean key(int c) {
        if ((sp(32) & 0x80) != 0) {
            return false;
        }
        special.put(33, c);
        special.put(32, sp(32) | 0x80);
        keyAsks |= (sp(32) & 0x40) != 0;
        return true;
    }

    // ---- exceptions

    /** kind: -1 an exception, 0 .. 31 an interrupt's level, 100 + k CHM's new mode, -2 offset 8 instead. */
    void take(int offset, int kind, int... parameters) {
        int vector;
        try {
            vector = physicalLong(sp(17) + offset);
        } catch (Fault f) {
            halted = 2;
            return;
        }
        int old = status;
        int fresh;
        if (kind >= 100) {
            if (bit(26)) {
                halted = 2;
                return;
            }
            fresh = kind - 100 << 24 | mode() << 22 | old & 0x1F0000;
        } else {
            if (kind != -2 && (vector & 2) != 0) {
                halted = 2;
                return;
            }
            boolean interrupts = kind == -2 || (vector & 1) == 1 || bit(26);
            fresh = interrupts ? 1 << 26 : 0;
            fresh |= kind >= 0 ? kind << 16 : interrupts ? 31 << 16 : old & 0x1F0000;
            fresh |= kind >= 0 ? 0 : mode() << 22;
        }
        int stack = (fresh >> 26 & 1) == 1 ? 4 : fresh >> 24 & 3;
        int top = (stack == stack() ? r[14] : sp[stack]) - 8 - 4 * parameters.length;
        int[] places;
        try {
            places = access(top, 8 + 4 * parameters.length, true, fresh >> 24 & 3);
        } catch (Fault f) {
            if (offset == 4 || offset == 8) {
                halted = 2;
            } else {
                take(8, -2);
            }
            return;
        }
        List<Integer> words = new ArrayList<>();
        for (int p : parameters) {
            words.add(0, p);
        }
        words.add(r[15]);
        words.add(old);
        for (int i = 0; i < places.length; i++) {
            memory[places[i]] = (byte) (words.get(i / 4) >> i % 4 * 8);
        }
        status(fresh);
        r[14] = top;
        r[15] = vector & ~3;
        taken++;
        latest = offset;
    }

    void step() {
        if (halted != 0) {
            return;
        }
        steps++;
        devices();
        int ipl = status >> 16 & 31;
        int software = 0;
        for (int k = 1; k < 16; k++) {
            if ((sp(21) >> k & 1) == 1) {
                software = k;
            }
        }
        if (clockAsks && 24 > ipl) {
            clockAsks = false;
            take(192, 24);
        } else if (!clockAsks && diskAsks && 21 > ipl) {
            diskAsks = false;
            take(256, 21);
        } else if (keyAsks && !clockAsks && !diskAsks && 20 > ipl) {
            keyAsks = false;
            take(248, 20);
        } else if (typedAsks && !clockAsks && !diskAsks && !keyAsks && 20 > ipl) {
            typedAsks = false;
            take(252, 20);
        } else if (software > ipl) {
            special.put(21, sp(21) & ~(1 << software));
            take(128 + 4 * software, software);
        } else if (bit(30)) {
            status &= ~(1 << 30);
            take(40, -1);
        } else {
            status = status & ~(1 << 30) | (status >> 4 & 1) << 30;
            instruction();
        }
    }

    void instruction() {
        int[] oldRegisters = r.clone();
        int oldStatus = status & ~(1 << 30);
        start = r[15];
        rounds = false;
        trap = 0;
        writes.clear();
        registers.clear();
        boolean done;
        int opcode;
        try {
            opcode = fetch(1)[0] & 255;
            done = perform(opcode);
        } catch (Fault f) {
            if (rounds) {
                r[15] = start;
                status = oldStatus | 1 << 27;
            } else {
                System.arraycopy(oldRegisters, 0, r, 0, 16);
                status = oldStatus;
            }
            take(f.offset, -1, f.parameters);
            return;
        }
        for (Write w : writes) {
            for (int i = 0; i < w.bytes().length; i++) {
                memory[w.places()[i]] = w.bytes()[i];
            }
        }
        for (Runnable one : registers) {
            one.run();
        }
        if (done) {
            ended++;
        }
        if (opcode >= 0xBC && opcode <= 0xBF) {
            take(64 + 4 * (opcode - 0xBC), 100 + Math.min(opcode - 0xBC, mode()), (int) ops.get(0).value);
        } else if (trap != 0) {
            take(52, -1, trap);
        }
    }

    byte[] fetch(int n) {
        byte[] bytes = new byte[n];
        for (int i = 0; i < n; i++) {
            bytes[i] = (byte) readByte(r[15]);
            r[15]++;
        }
        return bytes;
    }

    long fetchSigned(int n) {
        byte[] bytes = fetch(n);
        byte[] turned = new byte[n];
        for (int i = 0; i < n; i++) {
            turned[i] = bytes[n - 1 - i];
        }
        return new BigInteger(turned).longValue();
    }

    List<Op> ops = new ArrayList<>();
    int branch;

    static int size(char type) {
        return "b.w.l.q.f.d.g.h.".indexOf(type) < 0 ? 0 : switch (type) {
            case 'b' -> 1;
            case 'w' -> 2;
            case 'l', 'f', 'g' -> 4;
            default -> 8;
        };
    }

    static long sign(long v, int size) {
        return size == 8 ? v : size == 4 ? (int) v : size == 2 ? (short) v : (byte) v;
    }

    long inRegisters(int n, int size) {
        return size == 8 ? r[n] & 0xFFFFFFFFL | (long) r[n + 1] << 32 : sign(r[n], size);
    }

    void operand(char how, char type) {
        int size = size(type);
        if (how == 'j') {
            long by = fetchSigned(size);
            branch = r[15] + (int) by;
            return;
        }
        Op op = new Op();
        op.size = size;
        ops.add(op);
        int b = fetch(1)[0] & 255;
        int index = -1;
        if (b / 16 == 4) {
            index = b % 16;
            b = fetch(1)[0] & 255;
            if (b < 0x60 || b == 0x8F || index == 15) {
                throw new Fault(28);
            }
        }
        int m = b / 16;
        int n = b % 16;
        if (m < 4) {
            if (how != 'r') {
                throw new Fault(28);
            }
            op.kind = 'V';
            op.value = "fdgh".indexOf(type) >= 0 ? 0x4000 + 16 * b : b;
        } else if (m == 5) {
            if (how == 'a' || n == 15 || size == 8 && n >= 14) {
                throw new Fault(28);
            }
            op.kind = 'R';
            op.at = n;
            op.value = inRegisters(n, size);
        } else if (b == 0x8F) {
            if (how != 'r') {
                throw new Fault(28);
            }
            op.kind = 'V';
            op.value = fetchSigned(size);
        } else {
            if ((m == 6 || m == 7) && n == 15) {
                throw new Fault(28);
            }
            op.kind = 'M';
            op.at = address(m, n, size);
            if (index >= 0) {
                op.at += r[index] * size;
            }
            op.value = op.at;
            if (how == 'r' || how == 'm') {
                op.places = access(op.at, size, how == 'm', mode());
                op.value = sign(value(op.places), size);
            }
        }
        if ((type == 'f' || type == 'd') && (how == 'r' || how == 'm') && (op.value >> 7 & 0x1FF) == 0x100) {
            throw new Fault(24);
        }
    }

    int address(int m, int n, int size) {
        int a;
        switch (m) {
            case 6:
                return r[n];
            case 7:
                return r[n] -= size;
            case 8:
                a = r[n];
                r[n] += size;
                return a;
            case 9:
                if (n == 15) {
                    return (int) fetchSigned(4);
                }
                a = readLong(r[n]);
                r[n] += 4;
                return a;
            default:
                int by = (int) fetchSigned(m < 12 ? 1 : m < 14 ? 2 : 4);
                a = r[n] + by;
                return m % 2 == 1 ? readLong(a) : a;
        }
    }

    void put(int k, long v) {
        Op op = ops.get(k);
        if (op.kind == 'R') {
            registers.add(() -> {
                switch (op.size) {
                    case 1 -> r[op.at] = r[op.at] & 0xFFFFFF00 | (int) v & 0xFF;
                    case 2 -> r[op.at] = r[op.at] & 0xFFFF0000 | (int) v & 0xFFFF;
                    case 4 -> r[op.at] = (int) v;
                    default -> {
                        r[op.at] = (int) v;
                        r[op.at + 1] = (int) (v >> 32);
                    }
                }
            });
        } else {
            write(op.places != null ? op.places : access(op.at, op.size, true, mode()), v);
        }
    }

    long v(int k) {
        return ops.get(k).value;
    }

    int w(int k) {
        return (int) v(k) & 0xFFFF;
    }

    void go(boolean when) {
        if (when) {
            r[15] = branch;
        }
    }

    void overflow(boolean v) {
        if (v && bit(5)) {
            trap = 1;
        }
    }

    boolean perform(int opcode) {
        String format = FORMATS[opcode];
        boolean string = "0b 28 29 2a 2b 2c 2d 2e 2f 39 3a 3b".contains(String.format("%02x", opcode));
        if (format == null || bit(27) && !string) {
            throw new Fault(16);
        }
        if (Arrays.asList(0, 6, 7, 0xDA, 0xDB).contains(opcode) && mode() != 0) {
            throw new Fault(16);
        }
        ops.clear();
        if (!bit(27)) {
            for (String one : format.split(" ")) {
                if (!one.isEmpty()) {
                    operand(one.charAt(0), one.charAt(1));
                }
            }
        }
        if (string) {
            return strings(opcode);
        }
        if (opcode == 0) {
            halted = 1;
            return false;
        }
        if (opcode >= 0x80 && opcode < 0xE0 && opcode % 32 < 24) {
            family(opcode % 32, opcode < 0xA0 ? 1 : opcode < 0xC0 ? 2 : 4);
        } else if (opcode >= 0x40 && opcode < 0x78 && opcode != 0x58 && opcode / 4 != 0x17) {
            floats(opcode % 32, opcode >= 0x60);
        } else if (opcode == 8 || opcode == 9 || opcode >= 0x20 && opcode < 0x28 || opcode >= 0x34 && opcode < 0x39
            || opcode == 0xF8 || opcode == 0xF9) {
            decimals(opcode);
        } else if (opcode >= 0xE0 && opcode <= 0xF0 && opcode != 0xE8 && opcode != 0xE9) {
            fields(opcode);
        } else if (!integers(opcode) && !branches(opcode) && !queues(opcode)) {
            system(opcode);
        }
        return true;
    }

    // ---- integers

    void arithmetic(BigInteger exact, int size, boolean c, int to) {
        long result = sign(exact.longValue(), size);
        boolean v = !exact.equals(BigInteger.valueOf(result));
        put(to, result);
        flags(result < 0, result == 0, v, c);
        overflow(v);
    }

    static long low(long v, int size) {
        return size == 8 ? v : v & (1L << 8 * size) - 1;
    }

    void compare(long a, long b) {
        flags(a < b, a == b, false, a + Long.MIN_VALUE < b + Long.MIN_VALUE);
    }

    void family(int o, int size) {
        BigInteger a = BigInteger.valueOf(v(0 < ops.size() ? 0 : 0));
        BigInteger b = ops.size() > 1 ? BigInteger.valueOf(v(1)) : null;
        int to = o < 14 ? 1 + o % 2 : 1;
        long mask = (1L << 8 * size) - 1;
        switch (o) {
            case 0, 1 -> arithmetic(b.add(a), size, low(v(0), size) + low(v(1), size) > mask, to);
            case 2, 3 -> arithmetic(b.subtract(a), size, low(v(1), size) < low(v(0), size), to);
            case 4, 5 -> arithmetic(b.multiply(a), size, false, to);
            case 6, 7 -> {
                if (a.signum() == 0) {
                    put(to, v(1));
                    flags(v(1) < 0, v(1) == 0, true, false);
                    trap = 2;
                } else {
                    arithmetic(b.divide(a), size, false, to);
                }
            }
            case 8, 9 -> { put(to, v(1) | v(0)); nz(v(1) | v(0)); }
            case 10, 11 -> { put(to, v(1) & ~v(0)); nz(v(1) & ~v(0)); }
            case 12, 13 -> { put(to, v(1) ^ v(0)); nz(v(1) ^ v(0)); }
            case 14 -> arithmetic(a.negate(), size, a.signum() != 0, 1);
            case 15 -> {
                long t = v(0) - v(1) & mask;
                long third = v(2) & mask;
                compare(sign(t, size), v(2));
                if (t <= third) {
                    r[15] += (short) read(r[15] + (int) (2 * t), 2);
                } else {
                    r[15] += (int) (2 * (third + 1));
                }
            }
            case 16 -> { put(1, v(0)); nz(v(0)); }
            case 17 -> compare(v(0), v(1));
            case 18 -> { put(1, ~v(0)); nz(~v(0)); }
            case 19 -> nz(v(0) & v(1));
            case 20 -> { put(0, 0); nz(0); }
            case 21 -> flags(v(0) < 0, v(0) == 0, false, false);
            case 22 -> arithmetic(a.add(BigInteger.ONE), size, v(0) == -1, 0);
            default -> arithmetic(a.subtract(BigInteger.ONE), size, v(0) == 0, 0);
        }
    }

    boolean integers(int opcode) {
        switch (opcode) {
            case 0x98, 0x32 -> arithmetic(BigInteger.valueOf(v(0)), 4, false, 1);
            case 0x99, 0xF7 -> arithmetic(BigInteger.valueOf(v(0)), 2, false, 1);
            case 0x33, 0xF6 -> arithmetic(BigInteger.valueOf(v(0)), 1, false, 1);
            case 0x9A, 0x9B -> { put(1, v(0) & 255); nz(v(0) & 255); }
            case 0x3C -> { put(1, w(0)); nz(w(0)); }
            case 0x78, 0x79 -> {
                int by = (int) v(0);
                int size = opcode == 0x78 ? 4 : 8;
                BigInteger exact = BigInteger.valueOf(v(1));
                arithmetic(by < 0 ? exact.shiftRight(-by) : exact.shiftLeft(by), size, false, 2);
            }
            case 0x9C -> {
                int by = (int) v(0) & 31;
                int out = (int) (v(1) << by | (v(1) & 0xFFFFFFFFL) >>> 32 - by);
                put(2, out);
                nz(out);
            }
            case 0x7A -> {
                long out = v(0) * v(1) + v(2);
                put(3, out);
                flags(out < 0, out == 0, false, false);
            }
            case 0x7B -> {
                BigInteger[] both = v(0) == 0 ? null
                    : BigInteger.valueOf(v(1)).divideAndRemainder(BigInteger.valueOf(v(0)));
                boolean v = both == null || both[0].bitLength() > 31;
                int quotient = v ? (int) v(1) : both[0].intValue();
                put(2, quotient);
                put(3, v ? 0 : both[1].intValue());
                flags(quotient < 0, quotient == 0, v, false);
                overflow(v);
                trap = both == null ? 2 : trap;
            }
            case 0xD8 -> {
                int c = status & 1;
                arithmetic(BigInteger.valueOf(v(1) + v(0) + c), 4, low(v(1), 4) + low(v(0), 4) + c > 0xFFFFFFFFL, 1);
            }
            case 0xD9 -> {
                int c = status & 1;
                arithmetic(BigInteger.valueOf(v(1) - v(0) - c), 4, low(v(1), 4) - low(v(0), 4) - c < 0, 1);
            }
            case 0x58 -> arithmetic(BigInteger.valueOf(v(1) + v(0)), 2, low(v(1), 2) + low(v(0), 2) > 0xFFFF, 1);
            case 0x7C -> { put(0, 0); nz(0); }
            case 0x7D, 0x9E, 0x3E, 0xDE, 0x7E -> { put(1, v(0)); nz(v(0)); }
            case 0x9D, 0x3D, 0xF1 -> {
                int size = opcode == 0x9D ? 1 : opcode == 0x3D ? 2 : 4;
                arithmetic(BigInteger.valueOf(v(2) + v(1)), size, bit(0), 2);
                long index = sign(v(2) + v(1), size);
                go(v(1) >= 0 && index <= v(0) || v(1) < 0 && index >= v(0));
            }
            case 0xF2, 0xF3 -> {
                arithmetic(BigInteger.valueOf(v(1) + 1), 4, bit(0), 1);
                int index = (int) (v(1) + 1);
                go(index < v(0) || opcode == 0xF3 && index == v(0));
            }
            case 0xF4, 0xF5 -> {
                arithmetic(BigInteger.valueOf(v(0) - 1), 4, bit(0), 0);
                int index = (int) (v(0) - 1);
                go(index > 0 || opcode == 0xF4 && index == 0);
            }
            case 0xDD, 0x9F, 0x3F, 0xDF, 0x7F -> { push((int) v(0)); nz(v(0)); }
            case 0xDC -> put(0, status);
            case 0xB8, 0xB9 -> {
                if ((v(0) & 0xFF00) != 0) {
                    throw new Fault(24);
                }
                status = opcode == 0xB8 ? status | w(0) : status & ~w(0);
            }
            case 0x0A -> {
                int out = (int) ((v(4) + v(0)) * v(3));
                put(5, out);
                flags(out < 0, out == 0, false, false);
                trap = v(0) < v(1) || v(0) > v(2) ? 7 : 0;
            }
            default -> { return false; }
        }
        return true;
    }

    boolean branches(int opcode) {
        boolean n = bit(3);
        boolean z = bit(2);
        boolean v = bit(1);
        boolean c = bit(0);
        switch (opcode) {
            case 0x11, 0x31 -> go(true);
            case 0x12 -> go(!z);
            case 0x13 -> go(z);
            case 0x14 -> go(!n && !z);
            case 0x15 -> go(n || z);
            case 0x18 -> go(!n);
            case 0x19 -> go(n);
            case 0x1A -> go(!c && !z);
            case 0x1B -> go(c || z);
            case 0x1C -> go(!v);
            case 0x1D -> go(v);
            case 0x1E -> go(!c);
            case 0x1F -> go(c);
            case 0xE8 -> go((v(0) & 1) == 1);
            case 0xE9 -> go((v(0) & 1) == 0);
            case 0x10, 0x30 -> { push(r[15]); go(true); }
            case 0x16 -> { push(r[15]); r[15] = (int) v(0); }
            case 0x17 -> r[15] = (int) v(0);
            case 0x05 -> r[15] = pop();
            default -> { return false; }
        }
        return true;
    }

    // ---- fields and queues

    void fields(int opcode) {
        if (opcode < 0xE8) {
            int p = (int) v(0);
            Op base = ops.get(1);
            boolean was;
            boolean set = opcode == 0xE2 || opcode == 0xE3 || opcode == 0xE6;
            if (base.kind == 'R') {
                if (p < 0 || p > 31) {
                    throw new Fault(24);
                }
                was = (r[base.at] >>> p & 1) == 1;
                if (opcode >= 0xE2) {
                    r[base.at] = set ? r[base.at] | 1 << p : r[base.at] & ~(1 << p);
                }
            } else {
                int[] places = access(base.at + Math.floorDiv(p, 8), 1, opcode >= 0xE2, mode());
                int bit = Math.floorMod(p, 8);
                int old = (int) value(places);
                was = (old >> bit & 1) == 1;
                if (opcode >= 0xE2) {
                    write(places, set ? old | 1 << bit : old & ~(1 << bit));
                }
            }
            boolean wanted = opcode == 0xE0 || opcode == 0xE2 || opcode == 0xE4 || opcode == 0xE6;
            go(was == wanted);
            return;
        }
        int k = opcode == 0xF0 ? 1 : 0;
        int p = (int) v(k);
        int s = (int) v(k + 1) & 255;
        Op base = ops.get(k + 2);
        if (s > 32) {
            throw new Fault(24);
        }
        BigInteger whole = BigInteger.ZERO;
        int[] places = null;
        int from = p;
        if (s > 0 && base.kind == 'R') {
            if (p < 0 || p > 31 || p + s > 32 && base.at >= 14) {
                throw new Fault(24);
            }
            whole = new BigInteger(Long.toUnsignedString(r[base.at] & 0xFFFFFFFFL));
            if (p + s > 32) {
                whole = whole.add(BigInteger.valueOf(r[base.at + 1] & 0xFFFFFFFFL).shiftLeft(32));
            }
        } else if (s > 0) {
            from = Math.floorMod(p, 8);
            places = access(base.at + Math.floorDiv(p, 8), (from + s - 1) / 8 + 1, opcode == 0xF0, mode());
            whole = BigInteger.valueOf(value(places));
        }
        BigInteger ones = BigInteger.ONE.shiftLeft(s).subtract(BigInteger.ONE);
        BigInteger field = s == 0 ? BigInteger.ZERO : whole.shiftRight(from).and(ones);
        BigInteger signed = s > 0 && field.testBit(s - 1) ? field.subtract(BigInteger.ONE.shiftLeft(s)) : field;
        switch (opcode) {
            case 0xEA, 0xEB -> {
                int i = 0;
                while (i < s && field.testBit(i) != (opcode == 0xEA)) {
                    i++;
                }
                put(3, p + i);
                flags(false, i == s, false, false);
            }
            case 0xEC -> compare(signed.intValue(), v(3));
            case 0xED -> compare(field.intValue(), v(3));
            case 0xEE, 0xEF -> {
                int out = (opcode == 0xEE ? signed : field).intValue();
                put(3, out);
                flags(out < 0, out == 0, false, false);
            }
            default -> {
                if (s > 0) {
                    BigInteger in = BigInteger.valueOf(v(0)).and(ones).shiftLeft(from);
                    BigInteger out = whole.andNot(ones.shiftLeft(from)).or(in);
                    if (places != null) {
                        write(places, out.longValue());
                    } else {
                        r[base.at] = out.intValue();
                        if (p + s > 32) {
                            r[base.at + 1] = out.shiftRight(32).intValue();
                        }
                    }
                }
            }
        }
    }

    static void aligned(int... values) {
        for (int v : values) {
            if (v % 8 != 0) {
                throw new Fault(24);
            }
        }
    }

    boolean queues(int opcode) {
        if (opcode == 0x0E) {
            int a = (int) v(0);
            int b = (int) v(1);
            int next = readLong(b);
            writeTo(a, 4, next);
            writeTo(a + 4, 4, b);
            writeTo(next + 4, 4, a);
            writeTo(b, 4, a);
            compare(next, b);
            return true;
        }
        if (opcode == 0x0F) {
            int a = (int) v(0);
            int next = readLong(a);
            int last = readLong(a + 4);
            boolean none = next == a && last == a;
            if (!none) {
                writeTo(last, 4, next);
                writeTo(next + 4, 4, last);
            }
            put(1, a);
            compare(next, last);
            status |= none ? 2 : 0;
            return true;
        }
        if (opcode == 0x5C || opcode == 0x5D) {
            int e = (int) v(0);
            int h = (int) v(1);
            aligned(e, h);
            int link = readLong(opcode == 0x5C ? h : h + 4);
            aligned(link);
            int ahead = opcode == 0x5C ? h : h + link;
            int behind = opcode == 0x5C ? h + link : h;
            writeTo(e, 4, behind - e);
            writeTo(e + 4, 4, ahead - e);
            writeTo(behind + 4, 4, e - behind);
            writeTo(ahead, 4, e - ahead);
            flags(false, link == 0, false, false);
            return true;
        }
        if (opcode != 0x5E && opcode != 0x5F) {
            return false;
        }
        int h = (int) v(0);
        aligned(h);
        int link = readLong(opcode == 0x5E ? h : h + 4);
        if (link == 0) {
            flags(false, true, true, false);
            return true;
        }
        aligned(link);
        int e = h + link;
        int further = readLong(opcode == 0x5E ? e : e + 4);
        aligned(further);
        int ahead = opcode == 0x5E ? h : e + further;
        int behind = opcode == 0x5E ? e + further : h;
        writeTo(ahead, 4, behind - ahead);
        writeTo(behind + 4, 4, ahead - behind);
        put(1, e);
        flags(false, ahead == behind, false, false);
        return true;
    }

    // ---- calls, modes, processes

    void system(int opcode) {
        switch (opcode) {
            case 0x01, 0xBC, 0xBD, 0xBE, 0xBF -> { }
            case 0x02 -> {
                int pc = pop();
                int fresh = pop();
                int cur = fresh >> 24 & 3;
                int prv = fresh >> 22 & 3;
                int ipl = fresh >> 16 & 31;
                boolean is = (fresh >> 26 & 1) == 1;
                if (cur < mode() || prv < cur || (fresh & 0xB020FF00) != 0 || is && (cur != 0 || !bit(26))
                    || ipl != 0 && cur != 0 || ipl > (status >> 16 & 31)) {
                    throw new Fault(24);
                }
                status(fresh | status & 1 << 30);
                r[15] = pc;
                if (cur >= sp(19)) {
                    special.put(21, sp(21) | 4);
                }
            }
            case 0x03 -> throw new Fault(44);
            case 0x04 -> ret();
            case 0x06 -> load();
            case 0x07 -> save();
            case 0x0C, 0x0D -> {
                int m = Math.max((int) v(0) & 3, status >> 22 & 3);
                int base = (int) v(2);
                int last = w(1) == 0 ? base : base + w(1) - 1;
                flags(false, !may(base, opcode == 0x0D, m) || !may(last, opcode == 0x0D, m), false, bit(0));
            }
            case 0xBA -> {
                int own = 0;
                for (int n = 0; n < 15; n++) {
                    if ((w(0) >> n & 1) == 1) {
                        int popped = pop();
                        if (n < 14) {
                            r[n] = popped;
                        }
                        own = popped;
                    }
                }
                r[14] = (w(0) >> 14 & 1) == 1 ? own : r[14];
            }
            case 0xBB -> {
                int before = r[14];
                for (int n = 14; n >= 0; n--) {
                    if ((w(0) >> n & 1) == 1) {
                        push(n == 14 ? before : r[n]);
                    }
                }
            }
            case 0xDA -> {
                if (!writeSpecial((int) v(1), (int) v(0))) {
                    throw new Fault(24);
                }
                nz(v(0));
            }
            case 0xDB -> {
                Integer value = readSpecial((int) v(0));
                if (value == null) {
                    throw new Fault(24);
                }
                put(1, value);
                nz(value);
                if (v(0) == 33) {
                    special.put(32, sp(32) & 0x40);
                }
            }
            default -> call(opcode == 0xFB);
        }
    }

    boolean may(int va, boolean write, int mode) {
        try {
            translate(va, write, mode, false, false);
            return true;
        } catch (Fault f) {
            if (f.offset == 32) {
                return false;
            }
            throw f;
        }
    }

    void call(boolean counted) {
        int list = (int) v(0);
        if (counted) {
            push(list);
            list = r[14];
        }
        int mask = (int) read((int) v(1), 2);
        if ((mask >> 12 & 3) != 0) {
            throw new Fault(24);
        }
        int low = r[14] & 3;
        r[14] -= low;
        for (int n = 11; n >= 0; n--) {
            if ((mask >> n & 1) == 1) {
                push(r[n]);
            }
        }
        push(r[15]);
        push(r[13]);
        push(r[12]);
        push(status & 0xF0 | (mask & 0xFFF) << 16 | (counted ? 0x20000000 : 0) | low << 30);
        push(0);
        r[13] = r[14];
        r[12] = list;
        r[15] = (int) v(1) + 2;
        status = status & ~0xEF | mask >> 15 << 7 | (mask >> 14 & 1) << 5;
    }

    void ret() {
        r[14] = r[13] + 4;
        int frame = pop();
        if ((frame >> 8 & 255) != 0) {
            throw new Fault(24);
        }
        pop(12);
        pop(13);
        pop(15);
        for (int n = 0; n < 12; n++) {
            if ((frame >> 16 + n & 1) == 1) {
                pop(n);
            }
        }
        r[14] += frame >>> 30;
        if ((frame >> 29 & 1) == 1) {
            int count = pop();
            r[14] += 4 * (count & 255);
        }
        status = status & ~255 | frame & 255;
    }

    int block(int i) {
        return physicalLong(sp(16) + 4 * i);
    }

    void save() {
        for (int i = 0; i < 24; i++) {
            block(i);
        }
        int pc = pop();
        int old = pop();
        for (int k = 0; k < 4; k++) {
            blockPut(k, readSpecial(k));
        }
        for (int n = 0; n < 14; n++) {
            blockPut(4 + n, r[n]);
        }
        blockPut(18, pc);
        blockPut(19, old);
        if (!bit(26)) {
            int ipl = Math.max(1, status >> 16 & 31);
            status(status & 0xFFE0FFFF | ipl << 16 | 1 << 26);
        }
    }

    void blockPut(int i, int v) {
        for (int k = 0; k < 4; k++) {
            memory[sp(16) + 4 * i + k] = (byte) (v >> 8 * k);
        }
    }

    void load() {
        int[] all = new int[24];
        for (int i = 0; i < 24; i++) {
            all[i] = block(i);
        }
        for (int k = 0; k < 4; k++) {
            writeSpecial(k, all[k]);
        }
        System.arraycopy(all, 4, r, 0, 14);
        writeSpecial(8, all[20]);
        writeSpecial(9, all[21]);
        special.put(19, all[21] >> 24 & 7);
        writeSpecial(10, all[22]);
        writeSpecial(11, all[23]);
        status(status & ~(1 << 26));
        push(all[19]);
        push(all[18]);
    }

    // ---- strings

    int less(int register) {
        return (register & 0xFFFF0000) + (register - 1 & 0xFFFF);
    }

    boolean strings(int opcode) {
        if (!bit(27)) {
            int length = r[15] - start << 16;
            long[] o = new long[6];
            for (int i = 0; i < ops.size(); i++) {
                o[i] = v(i);
            }
            int[] in = r.clone();
            switch (opcode) {
                case 0x28, 0x29 -> {
                    in[0] = w(0);
                    in[1] = (int) o[1];
                    in[2] = w(0) + length;
                    in[3] = (int) o[2];
                    in[4] = opcode == 0x28 ? 0x400 : 0;
                }
                case 0x2C, 0x2D, 0x2E, 0x2F -> {
                    int k = opcode > 0x2D ? 4 : 3;
                    in[0] = w(0);
                    in[1] = (int) o[1];
                    in[4] = (int) o[2] & 255;
                    if (opcode != 0x2D) {
                        in[4] += 256 * ((o[0] < o[k] ? 8 : 0) + (o[0] == o[k] ? 4 : 0) + (w(0) < w(k) ? 1 : 0));
                    }
                    if (k == 4) {
                        in[5] = (int) o[3];
                    }
                    in[2] = w(k) + length;
                    in[3] = (int) o[k + 1];
                }
                case 0x3A, 0x3B -> {
                    in[0] = w(1);
                    in[1] = (int) o[2];
                    in[2] = ((int) o[0] & 255) + length;
                }
                case 0x2A, 0x2B -> {
                    in[0] = w(0);
                    in[1] = (int) o[1];
                    in[3] = (int) o[2];
                    in[2] = ((int) o[3] & 255) + length;
                }
                case 0x39 -> {
                    in[0] = w(0);
                    in[1] = (int) o[1];
                    in[2] = w(2) + length;
                    in[3] = (int) o[3];
                    in[4] = 0;
                }
                default -> {
                    in[1] = (int) o[0];
                    in[0] = (int) o[1];
                    in[2] = w(2) + length;
                    in[3] = (int) o[3];
                }
            }
            System.arraycopy(in, 0, r, 0, 6);
        }
        rounds = true;
        status &= ~(1 << 27);
        for (int i = 0; i < 100; i++) {
            if (round(opcode)) {
                r[15] = start + (r[2] >>> 16);
                r[2] &= 0xFFFF;
                finish(opcode);
                return true;
            }
        }
        r[15] = start;
        status |= 1 << 27;
        return false;
    }

    boolean escape;
    int left;
    int right;

    boolean round(int opcode) {
        int c0 = r[0] & 0xFFFF;
        int c2 = r[2] & 0xFFFF;
        switch (opcode) {
            case 0x28, 0x2C, 0x2E, 0x2F -> {
                escape = false;
                if (c2 == 0 || opcode == 0x2F && c0 == 0) {
                    return true;
                }
                int b = r[4] & 255;
                if (c0 > 0) {
                    b = readByte(r[1]);
                    if (opcode > 0x2D) {
                        b = readByte(r[5] + b);
                    }
                    if (opcode == 0x2F && b == (r[4] & 255)) {
                        escape = true;
                        return true;
                    }
                }
                int place = access(r[3], 1, true, mode())[0];
                memory[place] = (byte) b;
                if (c0 > 0) {
                    r[0] = less(r[0]);
                    r[1]++;
                }
                r[2] = less(r[2]);
                r[3]++;
            }
            case 0x29, 0x2D -> {
                left = right = 0;
                if (c0 == 0 && c2 == 0) {
                    return true;
                }
                left = c0 == 0 ? r[4] & 255 : readByte(r[1]);
                right = c2 == 0 ? r[4] & 255 : readByte(r[3]);
                if (left != right) {
                    return true;
                }
                if (c0 > 0) {
                    r[0] = less(r[0]);
                    r[1]++;
                }
                if (c2 > 0) {
                    r[2] = less(r[2]);
                    r[3]++;
                }
            }
            case 0x3A, 0x3B, 0x2A, 0x2B -> {
                if (c0 == 0) {
                    return true;
                }
                int b = readByte(r[1]);
                boolean hit = b == (r[2] & 255);
                if (opcode < 0x30) {
                    hit = (readByte(r[3] + b) & r[2] & 255) != 0;
                }
                if (hit == (opcode % 16 == 10)) {
                    return true;
                }
                r[0] = less(r[0]);
                r[1]++;
            }
            case 0x39 -> {
                if (r[4] == c0 || c2 < c0) {
                    return true;
                }
                if (readByte(r[1] + r[4]) == readByte(r[3] + r[4])) {
                    r[4]++;
                } else {
                    r[3]++;
                    r[2] = less(r[2]);
                    r[4] = 0;
                }
            }
            default -> {
                if (c2 == 0) {
                    return true;
                }
                int x = r[0] ^ readByte(r[3]);
                x = x >>> 4 ^ readLong(r[1] + 4 * (x & 15));
                x = x >>> 4 ^ readLong(r[1] + 4 * (x & 15));
                r[0] = x;
                r[2] = less(r[2]);
                r[3]++;
            }
        }
        return false;
    }

    void finish(int opcode) {
        switch (opcode) {
            case 0x28, 0x2C, 0x2E, 0x2F -> {
                flags((r[4] >> 11 & 1) == 1, (r[4] >> 10 & 1) == 1, escape, (r[4] >> 8 & 1) == 1);
                r[4] = r[5] = 0;
            }
            case 0x29, 0x2D -> {
                flags((byte) left < (byte) right, left == right, false, left < right);
                r[4] = r[5] = 0;
            }
            case 0x3A, 0x3B, 0x2A, 0x2B -> {
                flags(false, (r[0] & 0xFFFF) == 0, false, false);
                r[2] = 0;
                r[3] = opcode > 0x30 ? 0 : r[3];
            }
            case 0x39 -> {
                int object = r[0] & 0xFFFF;
                boolean found = r[4] == object;
                int on = found ? object : r[2];
                r[3] += on;
                r[2] = r[2] - on & 0xFFFF;
                r[4] = r[5] = 0;
                flags(false, found, false, false);
            }
            default -> {
                flags(r[0] < 0, r[0] == 0, false, false);
                r[1] = 0;
            }
        }
    }

    // ---- decimals

    int count(int k) {
        if (w(k) > 31) {
            throw new Fault(24);
        }
        return w(k);
    }

    int lastByte;

    byte[] bytesAt(int va, int n) {
        int[] places = access(va, n, false, mode());
        byte[] out = new byte[n];
        for (int i = 0; i < n; i++) {
            out[i] = memory[places[i]];
        }
        return out;
    }

    BigInteger decimal(int k, int string) {
        int n = count(k);
        byte[] in = bytesAt((int) v(string), n / 2 + 1);
        String hex = "";
        for (byte b : in) {
            hex += String.format("%02X", b & 255);
        }
        lastByte = in[in.length - 1] & 255;
        String digits = hex.substring(hex.length() - 1 - n, hex.length() - 1);
        char sign = hex.charAt(hex.length() - 1);
        if (!digits.matches("[0-9]*") || !"ABCDEF".contains("" + sign)) {
            throw new Fault(24);
        }
        BigInteger size = new BigInteger("0" + digits);
        return sign == 'B' || sign == 'D' ? size.negate() : size;
    }

    void clear(int... strings) {
        for (int i = 0; i < 6; i++) {
            r[i] = 0;
        }
        for (int i = 0; i < strings.length; i++) {
            r[2 * i + 1] = (int) v(strings[i]);
        }
    }

    /** The low digits of a result, as text, with its flags. */
    String trimmed(BigInteger value, int n) {
        BigInteger low = value.abs().mod(BigInteger.TEN.pow(n));
        boolean v = !low.equals(value.abs());
        boolean below = value.signum() < 0 && low.signum() != 0;
        flags(below, low.signum() == 0, v, false);
        if (v && bit(7)) {
            trap = 6;
        }
        String text = n == 0 ? "" : low.toString();
        return (below ? "-" : "+") + "0".repeat(n - text.length()) + text;
    }

    void putBytes(int va, byte[] bytes) {
        if (bytes.length > 0) {
            writes.add(new Write(access(va, bytes.length, true, mode()), bytes));
        }
    }

    void putDecimal(BigInteger value, int n, int string) {
        String text = trimmed(value, n);
        String hex = (n % 2 == 0 ? "0" : "") + text.substring(1) + (text.charAt(0) == '-' ? "D" : "C");
        byte[] out = new byte[hex.length() / 2];
        for (int i = 0; i < out.length; i++) {
            out[i] = (byte) Integer.parseInt(hex.substring(2 * i, 2 * i + 2), 16);
        }
        putBytes((int) v(string), out);
    }

    void decimals(int opcode) {
        switch (opcode) {
            case 0x20, 0x22 -> {
                BigInteger a = decimal(0, 1);
                BigInteger b = decimal(2, 3);
                putDecimal(opcode == 0x20 ? b.add(a) : b.subtract(a), w(2), 3);
                clear(1, 3);
            }
            case 0x21, 0x23, 0x25, 0x27 -> {
                BigInteger a = decimal(0, 1);
                BigInteger b = decimal(2, 3);
                int n = count(4);
                if (opcode == 0x27 && a.signum() == 0) {
                    status |= 2;
                    trap = 4;
                } else {
                    putDecimal(opcode == 0x21 ? b.add(a) : opcode == 0x23 ? b.subtract(a)
                        : opcode == 0x25 ? b.multiply(a) : b.divide(a), n, 5);
                }
                clear(1, 3, 5);
            }
            case 0x34 -> { putDecimal(decimal(0, 1), w(0), 2); clear(1, 2); }
            case 0x35, 0x37 -> {
                int order = decimal(0, 1).compareTo(opcode == 0x35 ? decimal(0, 2) : decimal(2, 3));
                flags(order < 0, order == 0, false, false);
                clear(1, opcode == 0x35 ? 2 : 3);
            }
            case 0xF9 -> { putDecimal(BigInteger.valueOf(v(0)), count(1), 2); clear(2); }
            case 0x36 -> {
                BigInteger a = decimal(0, 1);
                clear(1);
                arithmetic(a, 4, false, 2);
            }
            case 0xF8 -> {
                BigInteger a = decimal(1, 2);
                int up = (int) v(3) & 255;
                if (up > 9) {
                    throw new Fault(24);
                }
                int n = count(4);
                int by = (int) v(0);
                BigInteger size = a.abs();
                size = by >= 0 ? size.multiply(BigInteger.TEN.pow(by))
                    : size.divide(BigInteger.TEN.pow(-by - 1)).add(BigInteger.valueOf(up)).divide(BigInteger.TEN);
                putDecimal(a.signum() < 0 ? size.negate() : size, n, 5);
                clear(2, 5);
            }
            case 0x38 -> edit();
            default -> convert(opcode);
        }
    }

    void convert(int opcode) {
        switch (opcode) {
            case 0x08 -> {
                BigInteger a = decimal(0, 1);
                putBytes((int) v(3), trimmed(a, count(2)).getBytes());
                clear(1, 3);
            }
            case 0x09 -> {
                String text = new String(bytesAt((int) v(1), count(0) + 1), java.nio.charset.StandardCharsets.ISO_8859_1);
                if (!text.matches("(?s)[+ -][0-9]*")) {
                    throw new Fault(24);
                }
                BigInteger size = new BigInteger("0" + text.substring(1));
                putDecimal(text.charAt(0) == '-' ? size.negate() : size, count(2), 3);
                clear(1, 3);
            }
            case 0x24 -> {
                BigInteger a = decimal(0, 1);
                int n = count(3);
                byte[] out = new byte[0];
                if (n > 0) {
                    int last = readByte((int) v(2) + lastByte);
                    out = trimmed(a, n).substring(1).getBytes();
                    out[n - 1] = (byte) last;
                } else {
                    trimmed(a, 0);
                }
                putBytes((int) v(4), out);
                clear(1, 4);
            }
            default -> {
                int n = count(0);
                BigInteger value = BigInteger.ZERO;
                if (n > 0) {
                    byte[] in = bytesAt((int) v(1), n);
                    int last = readByte((int) v(2) + (in[n - 1] & 255));
                    String text = new String(in, 0, n - 1, java.nio.charset.StandardCharsets.ISO_8859_1);
                    if (!text.matches("[0-9]*") || last / 16 > 9 || last % 16 < 10) {
                        throw new Fault(24);
                    }
                    value = new BigInteger(text + last / 16);
                    value = last % 16 == 11 || last % 16 == 13 ? value.negate() : value;
                }
                putDecimal(value, count(3), 4);
                clear(1, 4);
            }
        }
    }

    void edit() {
        BigInteger a = decimal(0, 1);
        int n = w(0);
        String digits = "0".repeat(40) + a.abs();
        digits = digits.substring(digits.length() - n);
        StringBuilder out = new StringBuilder();
        boolean significant = false;
        char fill = ' ';
        char sign = a.signum() < 0 ? '-' : ' ';
        int at = (int) v(2);
        int used = 0;
        for (int i = 1;; i++) {
            int p = readByte(at++);
            if (p == 0) {
                break;
            }
            if (i == 200) {
                throw new Fault(24);
            }
            int x = p % 16;
            char next = p >= 4 && p <= 8 ? (char) readByte(at++) : 0;
            if (p == 1 || p == 2) {
                significant = p == 2;
            } else if (p == 3) {
                out.append(sign);
            } else if (p == 4) {
                fill = next;
            } else if (p == 5) {
                sign = a.signum() >= 0 ? next : sign;
            } else if (p == 6) {
                sign = a.signum() < 0 ? next : sign;
            } else if (p == 7) {
                out.append(significant ? next : fill);
            } else if (p == 8) {
                if (next > out.length()) {
                    throw new Fault(24);
                }
                for (int k = out.length() - next; a.signum() == 0 && k < out.length(); k++) {
                    out.setCharAt(k, fill);
                }
            } else if (p / 16 == 8 && x > 0) {
                for (int k = 0; k < x; k++) {
                    out.append(fill);
                }
            } else if ((p / 16 == 9 || p / 16 == 10) && x > 0) {
                for (int k = 0; k < x; k++) {
                    if (used >= n) {
                        throw new Fault(24);
                    }
                    char d = digits.charAt(used++);
                    if (d != '0' && !significant) {
                        significant = true;
                        if (p / 16 == 10) {
                            out.append(sign);
                        }
                    }
                    out.append(significant ? d : fill);
                }
            } else {
                throw new Fault(24);
            }
            if (out.length() > 200) {
                throw new Fault(24);
            }
        }
        if (used < n) {
            throw new Fault(24);
        }
        putBytes((int) v(3), out.toString().getBytes(java.nio.charset.StandardCharsets.ISO_8859_1));
        flags(a.signum() < 0, a.signum() == 0, false, significant);
        clear(1, 2);
        r[5] = (int) v(3) + out.length();
    }

    // ---- floats: exact fractions

    static BigInteger[] exact(long bits, boolean wide) {
        long e = bits >> 7 & 255;
        if (e == 0) {
            return new BigInteger[] {BigInteger.ZERO, BigInteger.ONE};
        }
        BigInteger f = BigInteger.valueOf(128 + (bits & 127)).shiftLeft(16).add(BigInteger.valueOf(bits >> 16 & 0xFFFF));
        int places = 24;
        if (wide) {
            f = f.shiftLeft(16).add(BigInteger.valueOf(bits >> 32 & 0xFFFF)).shiftLeft(16)
                .add(BigInteger.valueOf(bits >> 48 & 0xFFFF));
            places = 56;
        }
        BigInteger n = (bits >> 15 & 1) == 1 ? f.negate() : f;
        int p = (int) e - 128 - places;
        return p >= 0 ? new BigInteger[] {n.shiftLeft(p), BigInteger.ONE}
            : new BigInteger[] {n, BigInteger.ONE.shiftLeft(-p)};
    }

    long rounded(BigInteger n, BigInteger d, boolean wide) {
        if (d.signum() < 0) {
            return rounded(n.negate(), d.negate(), wide);
        }
        if (n.signum() == 0) {
            return 0;
        }
        int places = wide ? 56 : 24;
        BigInteger size = n.abs();
        int e = size.bitLength() - d.bitLength() + 1;
        while (true) {
            int up = places - e;
            BigInteger top = up >= 0 ? size.shiftLeft(up) : size;
            BigInteger under = up >= 0 ? d : d.shiftLeft(-up);
            if (top.divide(under).bitLength() < places) {
                e--;
                continue;
            }
            BigInteger f = top.shiftLeft(1).add(under).divide(under.shiftLeft(1));
            if (f.bitLength() > places) {
                f = f.shiftRight(1);
                e++;
            }
            int biased = e + 128;
            if (biased > 255) {
                throw new Fault(52, 8);
            }
            if (biased < 1) {
                if (bit(6)) {
                    throw new Fault(52, 10);
                }
                return 0;
            }
            long bits = f.longValue() << (wide ? 8 : 40) << 1 >>> 1 + 8;
            long high = (n.signum() < 0 ? 0x8000 : 0) | (long) biased << 7 | bits >>> 48 & 127;
            return high | (bits >>> 32 & 0xFFFF) << 16 | (bits >>> 16 & 0xFFFF) << 32 | (bits & 0xFFFF) << 48;
        }
    }

    void putFloat(int k, long bits, boolean c) {
        put(k, bits);
        flags((bits >> 15 & 1) == 1, (bits >> 7 & 255) == 0, false, c);
    }

    void floats(int o, boolean wide) {
        BigInteger[] a = exact(v(0), wide);
        BigInteger[] b = ops.size() > 1 ? exact(v(1), wide) : null;
        switch (o) {
            case 0, 1, 2, 3 -> {
                BigInteger left = b[0].multiply(a[1]);
                BigInteger right = a[0].multiply(b[1]);
                BigInteger n = o < 2 ? left.add(right) : left.subtract(right);
                putFloat(1 + o % 2, rounded(n, a[1].multiply(b[1]), wide), false);
            }
            case 4, 5 -> putFloat(1 + o % 2, rounded(a[0].multiply(b[0]), a[1].multiply(b[1]), wide), false);
            case 6, 7 -> {
                if (a[0].signum() == 0) {
                    throw new Fault(52, 9);
                }
                putFloat(1 + o % 2, rounded(b[0].multiply(a[1]), b[1].multiply(a[0]), wide), false);
            }
            case 8, 9, 10, 11 -> {
                BigInteger whole = a[0].abs().divide(a[1]);
                if (o == 11) {
                    whole = a[0].abs().shiftLeft(1).add(a[1]).divide(a[1].shiftLeft(1));
                }
                arithmetic(a[0].signum() < 0 ? whole.negate() : whole, o == 8 ? 1 : o == 9 ? 2 : 4, false, 1);
            }
            case 12, 13, 14 -> putFloat(1, rounded(BigInteger.valueOf(v(0)), BigInteger.ONE, wide), false);
            case 15 -> {
                BigInteger[] c = exact(v(2), wide);
                long sum = rounded(c[0].multiply(b[1]).add(b[0].multiply(c[1])), b[1].multiply(c[1]), wide);
                putFloat(2, sum, bit(0));
                BigInteger[] s = exact(sum, wide);
                int order = s[0].multiply(a[1]).compareTo(a[0].multiply(s[1]));
                go(b[0].signum() >= 0 ? order <= 0 : order >= 0);
            }
            case 16 -> putFloat(1, v(0), bit(0));
            case 17 -> {
                int order = a[0].multiply(b[1]).compareTo(b[0].multiply(a[1]));
                flags(order < 0, order == 0, false, false);
            }
            case 18 -> putFloat(1, rounded(a[0].negate(), a[1], wide), false);
            case 19 -> flags(a[0].signum() < 0, a[0].signum() == 0, false, false);
            default -> putFloat(1, rounded(a[0], a[1], !wide), false);
        }
    }
}
