/** SPECIALS: each number that may not be read or written, each value that is refused or cut; clock, terminal, disk. */
public final class EdgesOfDevices {
    private static final int CODE = Trial.CODE;
    private static final int DATA = Trial.DATA;
    private static final int END = Trial.END;
    private static final String READABLE = " 0 1 2 3 4 8 9 10 11 12 13 16 17 18 19 21 24 26 27 32 33 34 48 49 50 56 62 ";
    private static final String WRITABLE = " 0 1 2 3 4 8 9 10 11 12 13 16 17 18 19 20 21 24 25 27 32 34 35 48 49 50 56 57 58 ";

    private static Trial idle(String what) {
        return Trial.of(what, 0x11, 0xFE);
    }

    private static void everyNumber() {
        Bench.part("every number");
        int[] far = {-1, -2, 64, 65, 90, 127, 128, 255, 256, 1 << 30, Integer.MIN_VALUE, Integer.MAX_VALUE};
        for (int i = 0; i < 64 + far.length; i++) {
            int k = i < 64 ? i : far[i - 64];
            Trial read = Trial.of("MFPR " + k, 0xDB, Bench.l(k), 0x51).reg(1, 99).status(15).run(1);
            if (READABLE.contains(" " + k + " ")) {
                int v = k == 0 ? Trial.STACK : k == 4 ? Trial.INTERRUPTS : k == 17 ? Trial.VECTORS : k == 19 ? 4
                    : k == 34 || k == 50 ? 128 : k == 62 ? 0x01000611 : 0;
                read.fine().is(1, v).flags(v == 0 ? 5 : 1);
            } else {
                read.fault(24, 15).is(1, 99);
            }
            Trial written = Trial.of("MTPR " + k, 0xDA, 0x01, Bench.l(k)).status(15).run(1);
            if (WRITABLE.contains(" " + k + " ")) {
                written.fine().flags(1);
            } else {
                written.fault(24, 15);
            }
        }
        Trial.of("MTPR of a 0", 0xDA, 0x00, 0x10).status(11).run(1).fine().flags(5);
        Trial.of("MTPR below 0", 0xDA, Bench.l(-1), 0x10).run(1).fine().flags(8).reads(16, 0xFFFFFFFFL);
        Trial.of("MFPR below 0", 0xDB, 0x10, 0x51).special(16, -1).run(1).fine().flags(8).is(1, -1);
        Trial.of("MFPR's place is not there", 0xDB, 0x10, Bench.at(END)).run(1).fault(4, 0, END);
        Trial.of("RESERVED OPERAND ahead of that", 0xDB, 0x05, Bench.at(END)).run(1).fault(24, 0);
    }

    private static void cut(int k, int v, int want) {
        idle("written " + k).special(k, v).reads(k, want & 0xFFFFFFFFL);
        Trial.of("MTPR " + k, 0xDA, Bench.l(v), Bench.l(k)).run(1).fine().reads(k, want & 0xFFFFFFFFL);
    }

    private static void values() {
        Bench.part("values that are cut");
        for (int k : new int[] {1, 2, 3, 8, 10, 12, 16, 48, 49}) {
            cut(k, -1, -1);
            cut(k, Integer.MIN_VALUE, Integer.MIN_VALUE);
            cut(k, 0, 0);
        }
        for (int k : new int[] {9, 11, 13}) {
            cut(k, 0x3FFFFF, 0x3FFFFF);
            cut(k, 0x400000, 0);
            cut(k, -1, 0x3FFFFF);
        }
        cut(17, 511, 0);
        cut(17, 512, 512);
        cut(17, -1, 0xFFFFFE00);
        cut(18, 31, 31);
        cut(18, 32, 0);
        cut(18, -1, 31);
        cut(21, 1, 0);
        cut(21, 2, 2);
        cut(21, 0x8000, 0x8000);
        cut(21, 0x10000, 0);
        cut(21, -1, 0xFFFE);
        cut(56, 2, 0);
        cut(32, 0xBF, 0);
        cut(32, 0x40, 0x40);
        cut(34, 0x3F, 0x80);
        cut(34, -1, 0xC0);
        for (int v = 0; v <= 4; v++) {
            cut(19, v, v);
        }
        for (int v : new int[] {5, -1, 8, 256}) {
            Trial.of("ASTLVL " + v, 0xDA, Bench.l(v), 0x13).run(1).fault(24, 0).reads(19, 4);
        }
        int[][] asked = {{0, 0}, {1, 2}, {2, 4}, {15, 0x8000}, {16, 0}, {17, 0}, {31, 0}, {32, 0}, {33, 0}, {-1, 0}, {257, 0}};
        for (int[] one : asked) {
            idle("SIRR " + one[0]).special(18, 31).special(21, 0x100).special(20, one[0]).reads(21, 0x100 | one[1]);
            Trial.of("SIRR", 0xDA, Bench.l(one[0]), 0x14).special(18, 31).run(1).fine().reads(21, one[1]);
        }
        Trial.of("IPL is STATUS's", 0xDA, 0x1F, 0x12).run(1).is(16, 0x001F0000).reads(18, 31);
        Trial.of("a stack pointer is SP", 0xDA, 0x20, 0x00).run(1).is(14, 32).reads(0, 32);
        idle("SP as a special").special(0, 77).is(14, 77).reg(14, 78).reads(0, 78).special(4, 5).is(14, 78);
    }

    private static void clock() {
        Bench.part("clock");
        Trial t = idle("grows once").special(25, -2).special(24, 0x10).reads(26, 0xFFFFFFFEL).special(24, 0x20).reads(26, 0xFFFFFFFFL);
        t.reads(24, 0).special(25, 5).special(24, 0x20).reads(26, 5).reads(24, 0x80);
        t.special(24, 0x20).reads(26, 6).reads(24, 0x80).special(25, -1).special(24, 0x10).special(24, 0x20).reads(24, 0x80000080L);
        t.reads(26, 0xFFFFFFFFL).special(24, 0).reads(24, 0x80000080L).special(24, 0x80).reads(24, 0x80000000L);
        t.special(24, 0x80).reads(24, 0x80000000L).special(24, 0x80000000).reads(24, 0);
        t = idle("SINGLE only if RUN is 0").special(24, 0x21).reads(26, 0).reads(24, 1).special(24, 0x20).reads(26, 1).reads(24, 0);
        t = idle("all other bits are 0").special(24, 0x7FFFFF7F & ~0x31).reads(24, 0x40);
        t = idle("TRANSFER and SINGLE").special(25, 9).special(24, 0x30).reads(26, 10);
        t = idle("TRANSFER with RUN").special(25, 9).special(24, 0x11).reads(26, 9).run(2).reads(26, 11);
        t = idle("the greatest and the least").special(25, 0x7FFFFFFF).special(24, 0x30).reads(26, 0x80000000L).reads(24, 0);
        t = idle("RUN is not TRANSFER").special(25, 9).special(24, 1).reads(26, 0).special(24, 0x40).reads(26, 0).special(24, 0x80).reads(26, 0);
        t = idle("not without RUN").run(5).reads(26, 0);
        t = idle("to -1 is not from -1").special(25, -3).special(24, 0x51).run(2).reads(26, 0xFFFFFFFFL).reads(24, 0x41).state(2, 0);
        t.run(1).reads(26, 0xFFFFFFFDL).reads(24, 0xC1).state(3, 192);
        t = idle("not ENABLED").special(25, -1).special(24, 0x11).run(1).reads(24, 0x81).state(2, 0);
        t.run(1).reads(24, 0x80000081L).state(2, 0).special(24, 0x41).run(1).state(3, 192);
        t = idle("ENABLED later asks nothing").special(25, -1).special(24, 0x30).reads(24, 0x80).special(24, 0x40).run(1).state(2, 0);
        t = idle("SINGLE asks, too").special(25, -1).special(24, 0x70).run(1).state(3, 192);
        t = idle("HALTED").special(25, 0).special(24, 0x11).special(27, 3);
        t.x.halt();
        Bench.due("HALTED", t.x.run(9), 0);
        t.reads(26, 0).reads(27, 3);
        Bench.part("DAY");
        idle("0 stays").run(3).reads(27, 0);
        idle("1 grows").special(27, 1).run(3).reads(27, 4);
        idle("-1 becomes 0").special(27, -1).run(1).reads(27, 0).run(2).reads(27, 0);
        idle("without sign").special(27, 0x7FFFFFFF).run(1).reads(27, 0x80000000L);
        idle("in a step that is an interrupt").special(27, 5).special(20, 1).run(1).reads(27, 6).state(2, 1);
    }

    private static void keys() {
        Bench.part("keys");
        Trial t = Trial.of("MFPR ends THERE", 0xDB, Bench.l(33), 0x51, 0xDB, Bench.l(33), 0x52);
        t.x.key(200);
        t.reads(32, 128).reads(33, 200).reads(32, 128).run(1).is(1, 200).reads(32, 0).reads(33, 200).run(1).is(2, 200).fine();
        t = Trial.of("not with a fault", 0xDB, Bench.l(33), Bench.at(END));
        t.x.key(200);
        t.run(1).fault(4, 0, END).reads(32, 128);
        t = Trial.of("another special does not", 0xDB, Bench.l(32), 0x51);
        t.x.key(200);
        t.run(1).is(1, 128).reads(32, 128);
        t = idle("ENABLED while THERE").special(32, 0x80).reads(32, 0);
        t.x.key(1);
        t.run(1).state(2, 0).special(32, 0x80).special(32, 0).special(32, 1).run(1).state(2, 0).special(32, 64).reads(32, 0xC0).run(1).state(3, 248).state(2, 1);
        t = idle("THERE while ENABLED").special(32, 64).run(1).state(2, 0);
        Bench.yes("key", t.x.key(1));
        t.run(1).state(3, 248);
        t = idle("only when it becomes 1").vector(248, CODE | 1).special(32, 64);
        t.x.key(1);
        t.run(1).state(2, 1).special(18, 0).special(32, 64).run(2).state(2, 1);
        t.special(32, 0).run(1).state(2, 1).special(32, 64).run(1).state(2, 2);
        t = idle("a request stands").special(32, 64).special(18, 20);
        t.x.key(1);
        t.run(1).special(32, 0).special(18, 19).run(1).state(3, 248);
    }

    private static void typing() {
        Bench.part("typing");
        Trial t = idle("typed at once").special(35, 0x1FF).reads(34, 0).state(4, 1);
        Bench.due("low bits", t.x.typed(0), 255);
        t.run(2).reads(34, 0).special(35, 7).state(4, 1).run(1).reads(34, 128).special(35, 8).state(4, 2);
        Bench.due("the next", t.x.typed(0), 8);
        Bench.due("the lost one is lost", t.x.typed(1), 255);
        t = Trial.of("by MTPR", 0xDA, 0x09, Bench.l(35), 0x11, 0xFE).run(1).reads(34, 0).state(4, 1);
        t.run(2).reads(34, 0).run(1).reads(34, 128);
        t = idle("READY is not written").special(34, 0).reads(34, 128).special(35, 1).special(34, 128).reads(34, 0);
        t = idle("TYPED when READY becomes 1").vector(252, CODE | 1).special(35, 1).special(34, 64).run(2).state(2, 0);
        t.run(1).state(3, 252).state(2, 1).special(18, 0).run(5).state(2, 1);
        t.special(35, 1).run(2).state(2, 1).run(1).state(2, 2);
        t = idle("TYPED when ENABLED becomes 1").special(34, 64).run(1).state(3, 252);
        t = idle("not ENABLED").special(34, 0x80).special(34, 0).special(34, 1).run(1).state(2, 0);
        t = idle("not while it is not READY").special(35, 1).special(34, 64).run(1).state(2, 0);
        t = idle("nothing goes on while HALTED").special(35, 1);
        t.x.halt();
        t.x.run(5);
        t.reads(34, 0);
        t.x.proceed();
        t.run(2).reads(34, 0).run(1).reads(34, 128);
        t = idle("a step of an interrupt is a step").vector(132, CODE | 1).special(35, 1).special(20, 1).run(2).reads(34, 0).run(1)
            .reads(34, 128);
    }

    private static Trial disk(String what) {
        Trial t = idle(what);
        Bench.tape(t.x, Bench.repeated(0x5A, 520));
        t.x.stow(7, 512);
        return t.special(48, 7).special(49, DATA);
    }

    private static void diskWork() {
        Bench.part("disk");
        for (int v : new int[] {0, 3, 4, 8, 0xFFFFFF3C}) {
            disk("nothing begins with " + v).special(50, v).reads(50, 0x80).run(6).holds(DATA, 1, 0).reads(50, 0x80);
        }
        Trial t = disk("1 reads").special(50, 1).reads(50, 0).run(4).holds(DATA, 1, 0).reads(50, 0).run(1).reads(50, 0x80);
        t.holds(DATA, 8, 0x5A5A5A5A5A5A5A5AL).holds(DATA + 504, 8, 0x5A5A5A5A5A5A5A5AL).holds(DATA + 512, 8, 0).holds(DATA - 8, 8, 0);
        t.state(2, 0);
        t = disk("5 reads, too").special(50, 0xFFFFFF3D).reads(50, 0).run(5).holds(DATA, 1, 0x5A);
        t = disk("2 writes").special(50, 2).bytes(DATA, 1, 2, 3).bytes(DATA + 511, 4).run(4);
        Bench.due("not yet", t.x.disk(7, 0), 0x5A);
        t.run(1);
        Bench.due("the first", t.x.disk(7, 0), 1);
        Bench.due("the last", t.x.disk(7, 511), 4);
        Bench.due("not in the sector ahead", t.x.disk(6, 511), 0);
        t = Trial.of("by MTPR", 0xDA, 0x01, Bench.l(50), 0x11, 0xFE).special(49, DATA).bytes(DATA, 9).run(5).reads(50, 0).holds(DATA, 1, 9);
        t.run(1).reads(50, 0x80).holds(DATA, 1, 0);
        t = disk("while it is not READY ENABLED alone changes").special(50, 1).special(50, 0x42).reads(50, 0x40).special(50, 2);
        t.reads(50, 0).run(5).holds(DATA, 1, 0x5A).state(2, 0);
        t = disk("48 and 49 of the end count").special(48, 99).special(49, -1).special(50, 1).run(4).special(48, 7).special(49, DATA + 2);
        t.run(1).reads(50, 0x80).holds(DATA, 4, 0x5A5A0000L);
        int[][] ends = {{0, 0, 1}, {7, END - 512, 1}, {8, 0, 0}, {-1, 0, 0}, {Integer.MIN_VALUE, 0, 0}, {1 << 23, 0, 0}, {0, END - 511, 0},
            {0, END, 0}, {0, -1, 0}, {0, -512, 0}, {0, Integer.MAX_VALUE, 0}, {0, Integer.MIN_VALUE, 0}};
        for (int[] one : ends) {
            for (int command = 1; command < 3; command++) {
                t = disk("sector " + one[0] + " at " + one[1]).special(48, one[0]).special(49, one[1]).special(50, 0x40 | command);
                t.run(4).state(2, 0).run(1).reads(50, one[2] == 1 ? 0xC0 : 0x80C0).state(3, 256);
            }
        }
        t = disk("FAILED stays till the next begins").special(48, 8).special(50, 1).run(5).reads(50, 0x8080).special(50, 0x40);
        t.reads(50, 0x80C0).special(50, 0x8003).reads(50, 0x8080).special(48, 7).special(50, 1).reads(50, 0).run(5).reads(50, 0x80);
        t = disk("what FAILED moved nothing").special(49, END - 511).special(50, 1).run(5).holds(END - 8, 8, 0);
        t = disk("ENABLED at the end").special(50, 1).run(4).special(50, 0x40).run(1).state(3, 256);
        t = disk("ENABLED no more").special(50, 0x41).run(4).special(50, 0).run(1).state(2, 0).special(50, 0x40).run(1).state(2, 0);
        t = disk("all but READY, FAILED, ENABLED reads as 0").special(50, 0xFFFFFFFC).reads(50, 0xC0);
    }

    private static void fromTheNextStep() {
        Bench.part("a request is looked at from the next step on");
        Trial.of("an instruction's", 0xDA, 0x01, 0x14, 0x01).run(1).fine().reads(21, 2).run(1).pushed(132, CODE + 3, 0);
        Trial.of("IPL that falls", 0xDA, 0x00, 0x12, 0x01).special(18, 5).special(20, 3).run(1).fine().run(1).pushed(140, CODE + 3, 4);
    }

    public static void main(String[] args) {
        everyNumber();
        values();
        clock();
        keys();
        typing();
        diskWork();
        fromTheNextStep();
        Bench.end("edges of devices");
    }
}
