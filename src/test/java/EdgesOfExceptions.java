/** EXCEPTIONS: each offset, each stack, each way in which one fails in being taken, levels, and TRACE. */
public final class EdgesOfExceptions {
    private static final int CODE = Trial.CODE;
    private static final int DATA = Trial.DATA;
    private static final int STACK = Trial.STACK;
    private static final int HANDLER = Trial.HANDLER;
    private static final int INTERRUPTS = Trial.INTERRUPTS;
    private static final int END = Trial.END;
    private static final int S = Trial.S;

    private static void offsets() {
        Bench.part("offsets");
        Trial.of("4", 0x95, Bench.at(END)).run(1).fault(4, 0, END);
        Trial.of("8", 0x03).vector(44, HANDLER).reg(14, 7).run(1).fault(8, 0);
        Trial.of("24", 0xB8, Bench.w(0x100)).run(1).fault(24, 0);
        Trial.of("28", 0xD4, 0x00).run(1).fault(28, 0);
        Trial.mapped("32", 0x95, Bench.at(-1)).run(1).fault(32, 0, -1, 1);
        Trial.mapped("36", 0x95, Bench.at(3)).longs(Trial.PROCESS_TABLE, 0x20000010).run(1).fault(36, 0, 3, 0);
        Trial.of("40", 0x01).status(0x40000000).run(1).pushed(40, CODE, 0).state(7, 0);
        Trial.of("44", 0x03).run(1).fault(44, 0);
        Trial.of("52", 0xC6, 0x00, 0x51).run(1).trap(2, CODE + 3, 6);
        for (int k = 0; k < 4; k++) {
            Trial.of("CHM " + k, 0xBC + k, 0x05).run(1).pushed(64 + 4 * k, CODE + 2, 0, 5).state(7, 1).state(2, 1);
        }
        for (int k = 1; k < 16; k++) {
            Trial.of("software " + k, 0x01).special(20, k).run(1).pushed(128 + 4 * k, CODE, 0).is(16, 0x04000000 | k << 16);
        }
        Trial.of("192", 0x01).special(25, -1).special(24, 0x51).run(1).pushed(192, CODE, 0).is(16, 0x04180000);
        Trial key = Trial.of("248", 0x01).special(32, 64);
        Bench.yes("key", key.x.key(1));
        key.run(1).pushed(248, CODE, 0).is(16, 0x04140000);
        Trial.of("252", 0x01).special(34, 64).run(1).pushed(252, CODE, 0).is(16, 0x04140000);
        Trial.of("256", Bench.repeated(1, 8)).special(50, 0x41).run(5).pushed(256, CODE + 4, 0).is(16, 0x04150000);
    }

    private static void reservedInstructions() {
        Bench.part("reserved instructions");
        int[] none = {0x54, 0x55, 0x57, 0x59, 0x5A, 0x5B, 0x74, 0x75, 0x77, 0xFC, 0xFD, 0xFE, 0xFF};
        for (int opcode : none) {
            Trial.of("no such " + Integer.toHexString(opcode), opcode, 0x51, 0x52, 0x53).status(0x0F).run(1).fault(16, 0x0F);
        }
        for (int opcode = 0; opcode < 256; opcode++) {
            boolean missing = java.util.Arrays.binarySearch(none, opcode) >= 0;
            Trial t = Trial.of("opcode " + Integer.toHexString(opcode), opcode, Bench.repeated(0x5F, 6));
            t.run(1);
            Bench.due("RESERVED INSTRUCTION of " + Integer.toHexString(opcode), t.x.state(3) == 16 ? 1 : 0, missing ? 1 : 0);
        }
        int[] kernels = {0x00, 0x06, 0x07, 0xDA, 0xDB};
        for (int opcode : kernels) {
            for (int mode = 1; mode < 4; mode++) {
                int status = mode << 24 | 3 << 22;
                Trial.of("ahead of the operands", opcode, 0x5F, 0x5F).status(status).run(1).fault(16, status)
                    .is(16, 0x041F0000 | mode << 22).state(0, 0);
            }
        }
    }

    private static void stacks() {
        Bench.part("stacks");
        for (int bits = 0; bits < 4; bits++) {
            for (int is = 0; is < 2; is++) {
                int status = is << 26 | 0x000500E0;
                String what = "vector " + bits + ", IS " + is;
                Trial t = Trial.of(what, 0x03).vector(44, HANDLER + 0x34 | bits).status(status).reg(14, is == 1 ? INTERRUPTS : STACK);
                t.run(1);
                if (bits > 1) {
                    t.state(0, 2).state(2, 0).state(3, 0).state(7, 0).is(15, CODE).is(16, status).is(14, is == 1 ? INTERRUPTS : STACK);
                    continue;
                }
                boolean onInterrupts = bits == 1 || is == 1;
                t.fault(44, status).is(15, HANDLER + 0x34).is(14, (onInterrupts ? INTERRUPTS : STACK) - 8);
                t.is(16, onInterrupts ? 0x041F0000 : 0x00050000);
                Trial i = Trial.of(what + " of an interrupt", 0x01).vector(156, HANDLER + 0x34 | bits).special(20, 7).status(status)
                    .reg(14, is == 1 ? INTERRUPTS : STACK).run(1);
                i.pushed(156, CODE, status).is(14, (onInterrupts ? INTERRUPTS : STACK) - 8).is(16, onInterrupts ? 0x04070000 : 0x00070000);
            }
        }
        Trial user = Trial.of("from user mode to the kernel's stack", 0x03).vector(44, HANDLER).special(0, STACK - 64)
            .status(0x03C000EF).reg(14, STACK).run(1);
        user.fault(44, 0x03C000EF).is(14, STACK - 72).reads(3, STACK).is(16, 0x00C00000);
        Trial level = Trial.of("an interrupt's PRV is 0", 0x01).vector(132, HANDLER).special(20, 1).special(0, STACK).status(0x03C000EF)
            .reg(14, DATA).run(1);
        level.pushed(132, CODE, 0x03C000EF).is(16, 0x00010000).reads(3, DATA);
        Trial two = Trial.mapped("parameters, the last told on top", 0x95, Bench.at(0xC0000000)).run(1).fault(32, 0, 0xC0000000, 1);
        two.is(14, S + INTERRUPTS - 16).holds(INTERRUPTS - 16, 4, 1).holds(INTERRUPTS - 12, 4, 0xC0000000L);
    }

    /** Nothing but the frame is written, and all of it. */
    private static void frames() {
        Bench.part("frames");
        Trial t = Trial.of("no parameter", 0x03).bytes(INTERRUPTS - 16, Bench.repeated(0xEE, 20)).run(1).fault(44, 0);
        t.holds(INTERRUPTS - 9, 1, 0xEE).holds(INTERRUPTS - 16, 4, 0xEEEEEEEEL).holds(INTERRUPTS, 4, 0xEEEEEEEEL);
        t = Trial.of("one parameter", 0x95, Bench.at(END)).bytes(INTERRUPTS - 16, Bench.repeated(0xEE, 20)).run(1).fault(4, 0, END);
        t.holds(INTERRUPTS - 16, 4, 0xEEEEEEEEL).holds(INTERRUPTS, 4, 0xEEEEEEEEL);
        t = Trial.mapped("two parameters", 0x95, Bench.at(-1)).bytes(INTERRUPTS - 20, Bench.repeated(0xEE, 24)).run(1).fault(32, 0, -1, 1);
        t.holds(INTERRUPTS - 20, 4, 0xEEEEEEEEL).holds(INTERRUPTS, 4, 0xEEEEEEEEL);
        t = Trial.of("CHM", 0xBC, 0x05).bytes(STACK - 16, Bench.repeated(0xEE, 20)).run(1).pushed(64, CODE + 2, 0, 5);
        t.holds(STACK - 16, 4, 0xEEEEEEEEL).holds(STACK, 4, 0xEEEEEEEEL);
        for (int level : new int[] {0, 1, 15, 16, 31}) {
            Trial.of("IPL " + level + " stays on the kernel's stack", 0x03).vector(44, HANDLER).status(level << 16).run(1).fault(44, level << 16)
                .is(16, level << 16);
            Trial.of("IPL " + level + " stays with CHM", 0xBC, 0x05).status(level << 16).run(1).pushed(64, CODE + 2, level << 16, 5).is(16, level << 16);
        }
        t = Trial.of("a trap is one instruction's", 0xC6, 0x00, 0x51, 0x01, 0xC0, 0x01, 0x51).vector(52, CODE + 4).run(2).state(2, 1).state(7, 2).is(1, 1);
    }

    private static void failures() {
        Bench.part("what fails in being taken");
        for (int bits = 0; bits < 4; bits++) {
            Trial t = Trial.of("offset 8, whatever its vector's bits", 0x03).vector(44, HANDLER).vector(8, HANDLER + 0x40 | bits);
            t.status(0x004200EF | 1 << 6).reg(14, 7).run(1).fault(8, 0x004200EF).is(15, HANDLER + 0x40).is(16, 0x041F0000)
                .is(14, INTERRUPTS - 8).reads(0, 7);
        }
        for (int mode = 0; mode < 4; mode++) {
            int old = mode << 24 | 0x00C00000;
            Trial t = Trial.of("offset 8 from mode " + mode, 0x03).vector(44, HANDLER);
            t.x.set(16, old);
            t.special(0, 7).run(1).fault(8, old).is(16, 0x041F0000 | mode << 22);
        }
        Trial.of("the first bytes of memory are enough", 0x03).vector(44, HANDLER).reg(14, 8).run(1).fault(44, 0).is(14, 0);
        Trial.of("one fewer is not", 0x03).vector(44, HANDLER).reg(14, 7).run(1).fault(8, 0);
        Trial.of("with a parameter", 0xC6, 0x00, 0x51).vector(52, HANDLER).reg(14, 12).run(1).trap(2, CODE + 3, 6).is(14, 0);
        Trial.of("with a parameter, one fewer", 0xC6, 0x00, 0x51).vector(52, HANDLER).reg(14, 11).run(1).pushed(8, CODE + 3, 6)
            .state(7, 1).state(2, 1);
        Trial.of("the last bytes of memory", 0x03).vector(44, HANDLER).reg(14, END).run(1).fault(44, 0).is(14, END - 8);
        Trial.of("not behind them", 0x03).vector(44, HANDLER).reg(14, END + 1).run(1).fault(8, 0);
        Trial.of("both stacks", 0x03).vector(44, HANDLER).reg(14, 7).special(4, 7).run(1).state(0, 2).state(2, 0).state(3, 0)
            .is(15, CODE).is(16, 0).is(14, 7);
        Trial.of("offset 8 needs eight bytes", 0x03).vector(44, HANDLER).reg(14, 7).special(4, 8).run(1).fault(8, 0).is(14, 0);
        Trial.of("the interrupt stack's own", 0x03).special(4, 7).run(1).state(0, 2).state(2, 0);
        Trial.of("a machine check", 0x95, Bench.at(END)).vector(4, HANDLER).reg(14, 11).run(1).state(0, 2).state(2, 0).is(15, CODE);
        Trial.of("a machine check that fits", 0x95, Bench.at(END)).vector(4, HANDLER).reg(14, 12).run(1).fault(4, 0, END);
        Trial.of("no vector", 0x03).special(17, END).run(1).state(0, 2).state(2, 0).is(15, CODE);
        Trial.of("no vector at all", 0x03).special(17, 0xFFFFFE00).run(1).state(0, 2).state(2, 0);
        Trial last = Trial.of("the last page has vectors", 0x03).longs(END - 512 + 44, HANDLER | 1).special(17, END - 1).reads(17, END - 512);
        last.run(1).fault(44, 0);
        Trial.of("an interrupt without a vector", 0x01).special(17, END).special(20, 3).run(1).state(0, 2).reads(21, 0).is(15, CODE);
        Trial.of("an interrupt whose push fails", 0x01).vector(140, HANDLER).special(20, 3).reg(14, 7).run(1).pushed(8, CODE, 0)
            .reads(21, 0).is(16, 0x041F0000).state(2, 1);
        Trial.of("an interrupt that HALTS", 0x01, 0x01).vector(140, 2).special(20, 3).run(1).state(0, 2).reads(21, 0).is(15, CODE);
        Trial key = Trial.of("a device's that HALTS", 0x01, 0x01).vector(252, 3).special(34, 64).run(1).state(0, 2);
        key.x.proceed();
        key.run(1).state(2, 0).is(15, CODE + 1);
        Trial.of("a trap that HALTS: results are stored", 0xC7, 0x00, 0x05, 0x51).vector(52, 2).run(1).state(0, 2).is(1, 5)
            .is(15, CODE + 4).flags(2).state(7, 1);
        rightsOfPushes();
    }

    private static void rightsOfPushes() {
        Trial t = Trial.mapped("pushes are the kernel's", 0x03).vector(44, S + HANDLER).special(0, 512).status(0x03000000);
        t.longs(Trial.PROCESS_TABLE, 1 << 31 | 2 << 27 | 16).run(1).fault0(44, 17 * 512 - 8);
        t = Trial.mapped("which may write", 0x03).vector(44, S + HANDLER).reg(14, 512);
        t.longs(Trial.PROCESS_TABLE, 1 << 31 | 3 << 27 | 16).run(1).fault(8, 0);
        t = Trial.mapped("not valid", 0x03).vector(44, S + HANDLER).reg(14, 512);
        t.longs(Trial.PROCESS_TABLE, 2 << 27 | 16).run(1).fault(8, 0).reads(0, 512);
        t = Trial.mapped("in two pages", 0x03).vector(44, S + HANDLER).reg(14, 516);
        t.longs(Trial.PROCESS_TABLE, 0xA0000010, 0xA0000014).run(1).fault0(44, 17 * 512 - 4).holds(20 * 512, 4, 0);
        t = Trial.mapped("in two pages, the second fails: MODIFIED stays", 0x03).vector(44, S + HANDLER).reg(14, 516);
        t.longs(Trial.PROCESS_TABLE, 0xA0000010, 0x20000014).run(1).fault(8, 0).holds(Trial.PROCESS_TABLE, 4, 0xA4000010L)
            .holds(17 * 512 - 4, 4, 0);
    }

    private static void levels() {
        Bench.part("levels");
        for (int k = 1; k < 16; k++) {
            Trial.of("software " + k + " at its level", 0x01).special(20, k).special(18, k).run(1).fine().reads(21, 1 << k);
            Trial.of("software " + k + " below it", 0x01).special(20, k).special(18, k - 1).run(1).pushed(128 + 4 * k, CODE, k - 1 << 16)
                .reads(21, 0).reads(18, k);
        }
        int[][] devices = {{32, 64, 20, 248}, {34, 64, 20, 252}, {24, 0x51, 24, 192}, {50, 0x41, 21, 256}};
        for (int[] d : devices) {
            for (int below = 0; below < 2; below++) {
                Trial t = Trial.of("device " + d[3], Bench.repeated(1, 8)).special(25, -1).special(18, d[2] - below).special(d[0], d[1]);
                t.x.key(5);
                t.x.run(5);
                Bench.due("taken " + d[3], t.x.state(2) > 0 ? 1 : 0, below);
                Bench.due("offset " + d[3], t.x.state(3), below == 1 ? d[3] : 0);
            }
        }
        Trial all = Trial.of("the greatest first", Bench.repeated(1, 8)).special(18, 31).special(25, -1).special(24, 0x51).special(32, 64)
            .special(34, 64).special(50, 0x41).special(21, 0xFFFE);
        all.x.key(5);
        all.run(5).special(24, 0);
        int[] order = {192, 256, 248, 252, 188, 184, 180, 176, 172, 168, 164, 160, 156, 152, 148, 144, 140, 136, 132};
        for (int i = 0; i < order.length; i++) {
            all.special(18, 0).run(1).state(3, order[i]).state(2, i + 1).reads(21, 0xFFFE & (i < 4 ? 0xFFFE : (1 << 19 - i) - 1));
        }
        all.state(7, 5).special(18, 0).special(4, INTERRUPTS).reg(15, CODE).run(1).state(2, order.length);
        Trial.of("software bit 0 is none", 0x01).special(21, 1).reads(21, 0).run(1).fine();
        Trial.of("IPL 31 keeps all away", 0x01).special(21, 0xFFFE).special(18, 31).run(1).fine();
    }

    private static void tracing() {
        Bench.part("TRACE");
        Trial t = Trial.of("T", 0x01, 0x01).status(0x10).run(1).is(16, 0x40000010).is(15, CODE + 1);
        t.run(1).pushed(40, CODE + 1, 0x10).state(7, 1).is(16, 0x041F0000);
        Trial.of("TP without T", 0x01).status(0x40000000).run(1).pushed(40, CODE, 0).state(7, 0);
        Trial.of("T ended by the instruction: TP stays", 0xB9, 0x10, 0x01).status(0x10).run(1).is(16, 0x40000000)
            .run(1).pushed(40, CODE + 2, 0);
        Trial.of("T begun by the instruction: TP comes with the next", 0xB8, 0x10, 0x01, 0x01).run(1).is(16, 0x10).run(1).is(16, 0x40000010)
            .run(1).pushed(40, CODE + 3, 0x10);
        Trial.of("a fault's TP is 0", 0x03).status(0x10).run(1).fault(44, 0x10).run(1).state(2, 1);
        Trial.of("a trap's is as it is", 0xC6, 0x00, 0x51).status(0x10).run(1).trap(2, CODE + 3, 0x40000016);
        Trial.of("CHM's, too", 0xBC, 0x00).status(0x10).run(1).pushed(64, CODE + 2, 0x40000010, 0);
        Trial.of("an interrupt comes ahead", 0x01).status(0x40000010).special(20, 1).run(1).pushed(132, CODE, 0x40000010);
        Trial.of("one that is not above IPL does not", 0x01).status(0x40010000).special(20, 1).run(1).pushed(40, CODE, 0x00010000);
        Trial.of("TRACE that HALTS: TP is 0", 0x01).vector(40, 2).status(0x40000010).run(1).state(0, 2).is(16, 0x10).is(15, CODE);
        Trial.of("HALT with T", 0x00).status(0x10).run(1).state(0, 1).is(16, 0x40000010);
        Trial string = Trial.of("a string of more than 100 rounds", 0x3B, 0x00, Bench.w(150), Bench.at(DATA)).status(0x10).run(1);
        string.is(16, 0x48000010).is(15, CODE).run(1).pushed(40, CODE, 0x08000010);
    }

    private static void arithmetic() {
        Bench.part("ARITHMETIC");
        Trial.of("1 only with IV", 0xD6, 0x51).reg(1, Integer.MAX_VALUE).run(1).fine().flags(10);
        Trial.of("1", 0xD6, 0x51).reg(1, Integer.MAX_VALUE).status(0x20).run(1).trap(1, CODE + 2, 0x2A).is(1, Integer.MIN_VALUE);
        Trial.of("2 always", 0xC6, 0x00, 0x51).reg(1, -5).run(1).trap(2, CODE + 3, 0x0A).is(1, -5);
        Trial.of("2 and not 1 with IV", 0xC6, 0x00, 0x51).status(0x20).run(1).trap(2, CODE + 3, 0x26);
        Trial.of("4 always", 0x27, 0x01, Bench.at(DATA), 0x01, Bench.at(DATA + 1), 0x01, Bench.at(DATA + 2)).bytes(DATA, 0x0C, 0x1C, 0x77)
            .run(1).trap(4, CODE + 19, 2).holds(DATA + 2, 1, 0x77);
        Trial six = Trial.of("6 only with DV", 0xF9, 0x0A, 0x01, Bench.at(DATA)).run(1).fine();
        six.flags(6).holds(DATA, 1, 0x0C);
        Trial.of("6", 0xF9, 0x0A, 0x01, Bench.at(DATA)).status(0x80).run(1).trap(6, CODE + 8, 0x86).holds(DATA, 1, 0x0C);
        Trial.of("6 is not for IV", 0xF9, 0x0A, 0x01, Bench.at(DATA)).status(0x20).run(1).fine();
        Trial.of("1 is not for DV", 0xD6, 0x51).reg(1, Integer.MAX_VALUE).status(0x80).run(1).fine();
        Trial.of("7", 0x0A, 0x05, 0x00, 0x04, 0x01, 0x00, 0x51).run(1).trap(7, CODE + 7, 0).is(1, 5);
        Trial.of("8, a fault", 0x44, 0x51, 0x51).reg(1, 0x7F80).status(0x0F).run(1).fault(52, 0x0F, 8).is(1, 0x7F80);
        Trial.of("9, a fault", 0x46, 0x51, 0x52).reg(2, 0x4080).status(0x0F).run(1).fault(52, 0x0F, 9).is(2, 0x4080);
        Trial.of("10 with FU, a fault", 0x44, 0x51, 0x51).reg(1, 0x0080).status(0x4F).run(1).fault(52, 0x4F, 10).is(1, 0x0080);
        Trial.of("10 only with FU", 0x44, 0x51, 0x51).reg(1, 0x0080).status(0x0F).run(1).fine().is(1, 0).flags(4);
    }

    public static void main(String[] args) {
        offsets();
        reservedInstructions();
        stacks();
        frames();
        failures();
        levels();
        tracing();
        arithmetic();
        Bench.end("edges of exceptions");
    }
}
