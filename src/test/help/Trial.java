/** One instruction in kernel mode on the kernel's stack, whose vectors all lead to HALT on the interrupt stack. */
final class Trial {
    static final int CODE = 0x200;
    static final int VECTORS = 0x400;
    static final int HANDLER = 0x700;
    static final int DATA = 0x1000;
    static final int STACK = 0x2000;
    static final int INTERRUPTS = 0x2800;
    static final int PAGES = 32;
    static final int END = PAGES * 512;
    /** The region of the system, whose first pages the physical ones are when memory is mapped. */
    static final int S = 0x80000000;
    static final int P1 = 0x40000000;
    static final int SYSTEM_TABLE = 0x800;
    static final int PROCESS_TABLE = 0xC00;

    final RingComputer x = new RingComputer(PAGES, 8);
    private final String what;
    private final int base;

    private Trial(String what, int base) {
        this.what = what;
        this.base = base;
        int[] vectors = new int[65];
        java.util.Arrays.fill(vectors, base + HANDLER | 1);
        Bench.longs(x, VECTORS, vectors);
        x.write(17, VECTORS);
        x.write(4, base + INTERRUPTS);
        x.write(19, 4);
        x.set(16, 0);
        x.set(14, base + STACK);
    }

    static Trial of(String what, Object... code) {
        Trial t = new Trial(what, 0);
        Bench.bytes(t.x, CODE, Bench.code(code));
        t.x.go(CODE);
        return t;
    }

    /** S pages 0 .. 31 are the physical ones, P0 pages 0 .. 15 the physical ones from 16 on; all may do all. */
    static Trial mapped(String what, Object... code) {
        Trial t = new Trial(what, S);
        int[] system = new int[32];
        int[] process = new int[16];
        for (int i = 0; i < 32; i++) {
            system[i] = 0xA0000000 | i;
            process[i / 2] = 0xA0000000 | i / 2 + 16;
        }
        t.longs(SYSTEM_TABLE, system).longs(PROCESS_TABLE, process);
        Bench.bytes(t.x, CODE, Bench.code(code));
        t.special(12, SYSTEM_TABLE).special(13, 32).special(8, S | PROCESS_TABLE).special(9, 16);
        t.special(10, (S | PROCESS_TABLE) - 4 * 0x1FFFF0).special(11, 0x1FFFF0).special(56, 1);
        t.x.go(S | CODE);
        return t;
    }

    Trial reg(int k, int v) {
        Bench.yes(what + ": set", x.set(k, v));
        return this;
    }

    /** STATUS, on the stack that it tells, which is the one at hand. */
    Trial status(int v) {
        int sp = (int) x.register(14);
        x.set(16, v);
        x.set(14, sp);
        return this;
    }

    Trial special(int k, int v) {
        Bench.yes(what + ": write " + k, x.write(k, v));
        return this;
    }

    Trial bytes(int address, int... values) {
        Bench.bytes(x, address, values);
        return this;
    }

    Trial longs(int address, int... values) {
        Bench.longs(x, address, values);
        return this;
    }

    Trial vector(int offset, int v) {
        return longs(VECTORS + offset, v);
    }

    Trial run(int n) {
        Bench.due(what + ": steps", x.run(n), n);
        return this;
    }

    /** The instruction again, from its first byte on, nothing having been taken. */
    Trial again() {
        x.set(15, base + CODE);
        return this;
    }

    Trial is(int k, int want) {
        Bench.due(what + ": register " + k, x.register(k), want & 0xFFFFFFFFL);
        return this;
    }

    Trial flags(int want) {
        Bench.due(what + ": flags", x.register(16) & 15, want);
        return this;
    }

    Trial holds(int address, int size, long want) {
        Bench.due(what + ": memory at " + Integer.toHexString(address), x.memory(address, size), want);
        return this;
    }

    Trial reads(int k, long want) {
        Bench.due(what + ": special " + k, x.special(k), want);
        return this;
    }

    Trial state(int k, long want) {
        Bench.due(what + ": state " + k, x.state(k), want);
        return this;
    }

    Trial kept(int i, long page, long entry) {
        Bench.due(what + ": kept page " + i, x.kept(i, 1), page);
        Bench.due(what + ": kept entry " + i, x.kept(i, 2), entry);
        return this;
    }

    /** Nothing was taken: all instructions came to their end. */
    Trial fine() {
        Bench.due(what + ": taken", x.state(2), 0);
        Bench.due(what + ": ended", x.state(7), x.state(1));
        return this;
    }

    /** Nothing was taken, and one instruction came to its end. */
    Trial fine1() {
        return state(2, 0).state(7, 1);
    }

    /** The first instruction was a fault: what was pushed, with the STATUS of before. */
    Trial fault(int offset, int status, int... parameters) {
        Bench.due(what + ": taken", x.state(2), 1);
        Bench.due(what + ": ended", x.state(7), 0);
        return pushed(offset, base + CODE, status, parameters);
    }

    /** A fault without parameters from mode 0 or 3, pushed to a physical place. */
    Trial fault0(int offset, int place) {
        Bench.due(what + ": taken", x.state(2), 1);
        Bench.due(what + ": offset", x.state(3), offset);
        Bench.due(what + ": PC", x.memory(place, 4), base + CODE & 0xFFFFFFFFL);
        return this;
    }

    /** The first instruction was at its end, and a trap was taken. */
    Trial trap(int number, int pc, int status) {
        Bench.due(what + ": taken", x.state(2), 1);
        Bench.due(what + ": ended", x.state(7), 1);
        return pushed(52, pc, status, number);
    }

    Trial pushed(int offset, int pc, int status, int... parameters) {
        Bench.due(what + ": offset", x.state(3), offset);
        int top = (int) x.register(14) - base;
        for (int i = 0; i < parameters.length; i++) {
            int place = top + 4 * (parameters.length - 1 - i);
            Bench.due(what + ": parameter " + i, x.memory(place, 4), parameters[i] & 0xFFFFFFFFL);
        }
        Bench.due(what + ": PC", x.memory(top + 4 * parameters.length, 4), pc & 0xFFFFFFFFL);
        Bench.due(what + ": STATUS", x.memory(top + 4 * parameters.length + 4, 4), status & 0xFFFFFFFFL);
        return this;
    }
}
