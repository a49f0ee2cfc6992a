/** MEMORY, and promise 11: lengths, codes, kept entries, and accesses that lie in two pages or beyond memory. */
public final class EdgesOfMemory {
    private static final int S = Trial.S;
    private static final int P1 = Trial.P1;
    private static final int END = Trial.END;
    private static final int ACCESS = 32;
    private static final int MISSING = 36;
    private static final int MACHINE_CHECK = 4;
    private static final int FIRST_P1 = P1 + (0x1FFFF0 << 9);
    private static final int[] WRITERS = {-1, -1, 0, -1, 3, 1, 0, -1, 2, 1, 0, -1, 2, 1, 0, -1};
    private static final int[] READERS = {-1, -1, 0, 0, 3, 1, 1, 1, 2, 2, 2, 2, 3, 3, 3, 3};

    private static Trial entry(Trial t, int page, int value) {
        return t.longs(Trial.PROCESS_TABLE + 4 * page, value);
    }

    private static Trial systemEntry(Trial t, int page, int value) {
        return t.longs(Trial.SYSTEM_TABLE + 4 * page, value);
    }

    private static void where(String what, Trial t, int address, boolean write, long want) {
        Bench.due(what, t.x.where(address, 3, write), want);
    }

    private static void unmapped() {
        Bench.part("no map");
        Trial t = Trial.of("the last byte", 0x95, Bench.at(END - 1)).run(1).fine();
        Trial.of("the first byte behind", 0x95, Bench.at(END)).run(1).fault(MACHINE_CHECK, 0, END);
        Trial.of("the last address", 0x95, Bench.at(-1)).run(1).fault(MACHINE_CHECK, 0, -1);
        Trial.of("the last L", 0xD5, Bench.at(END - 4)).run(1).fine();
        for (int i = 1; i < 4; i++) {
            Trial.of("an L that is not all there", 0xD5, Bench.at(END - 4 + i)).run(1).fault(MACHINE_CHECK, 0, END);
            Trial.of("to write", 0xD4, Bench.at(END - 4 + i)).run(1).fault(MACHINE_CHECK, 0, END).holds(END - 4, 4, 0);
        }
        Trial.of("an L ahead of all", 0xD5, Bench.at(-2)).run(1).fault(MACHINE_CHECK, 0, -2);
        Trial.of("the last Q", 0x7C, Bench.at(END - 8)).run(1).fine();
        Trial.of("a Q that is not all there", 0x7C, Bench.at(END - 7)).run(1).fault(MACHINE_CHECK, 0, END);
        where("the last byte", t, END - 1, true, END - 1);
        where("behind", t, END, false, -100);
        where("the last address", t, -1, false, -100);
        where("the first behind all signs", t, S, true, -100);
        where("the first", t, 0, true, 0);
        t.special(56, 2).reads(56, 0).special(56, -2).reads(56, 0).special(56, 3).reads(56, 1);
    }

    private static void lengths() {
        Bench.part("lengths");
        Trial t = Trial.mapped("lengths", 0x01);
        where("P0's last page", t, 15 * 512 + 511, false, 31 * 512 + 511);
        where("behind it", t, 16 * 512, false, -2);
        where("behind it, to write", t, 16 * 512, true, -6);
        where("P1's first page", t, FIRST_P1, false, 16 * 512);
        where("below it", t, FIRST_P1 - 1, false, -2);
        where("below it, to write", t, FIRST_P1 - 1, true, -6);
        where("P1's last byte", t, 0x7FFFFFFF, true, 31 * 512 + 511);
        where("S's last page", t, S + 32 * 512 - 1, true, END - 1);
        where("behind it", t, S + 32 * 512, false, -2);
        where("behind it, to write", t, S + 32 * 512, true, -6);
        where("S's last page of all", t, 0xBFFFFFFF, false, -2);
        where("region 3's first", t, 0xC0000000, false, -2);
        where("region 3's last", t, -1, true, -6);
        t.special(9, 0).special(11, 0x200000);
        where("P0 of length 0", t, 0, false, -2);
        where("no P1", t, 0x7FFFFFFF, false, -2);
        t.special(9, 1).special(11, 0x1FFFFF);
        where("P0 of one page", t, 511, false, 16 * 512 + 511);
        where("not of two", t, 512, false, -2);
        where("P1 of one page", t, 0x7FFFFE00, false, 31 * 512);
        where("not of two", t, 0x7FFFFDFF, false, -2);
        t.special(9, 0x3FFFFF).special(11, 0);
        where("all of P0: its table is not within S", t, 0x3FFFFFFF, false, -4);
        where("all of P1: its table is not S's", t, P1, false, -4);
        t.special(9, 0x400001).reads(9, 1).special(11, -1).reads(11, 0x3FFFFF);
        where("P1 above all pages", t, 0x7FFFFFFF, false, -2);
        t.special(13, 0);
        where("S of length 0", t, S, false, -2);
        where("P0's table is outside then", t, 0, false, -4);
        t.special(13, 1);
        where("S of one page", t, S + 511, false, 511);
        where("not of two", t, S + 512, false, -2);
        Trial.mapped("P0", 0xD5, Bench.at(16 * 512)).run(1).fault(ACCESS, 0, 16 * 512, 1);
        Trial.mapped("P0, to write", 0xD4, Bench.at(16 * 512)).run(1).fault(ACCESS, 0, 16 * 512, 5);
        Trial.mapped("P1", 0xD5, Bench.at(FIRST_P1 - 4)).run(1).fault(ACCESS, 0, FIRST_P1 - 4, 1);
        Trial.mapped("S", 0xD5, Bench.at(S + END)).run(1).fault(ACCESS, 0, S + END, 1);
        Trial.mapped("region 3", 0xD6, Bench.at(0xC0000000)).run(1).fault(ACCESS, 0, 0xC0000000, 5);
    }

    private static void tables() {
        Bench.part("tables");
        Trial t = Trial.mapped("tables", 0x01).longs(END - 4, 0xA0000003).longs(0, 0xA0000005);
        t.special(8, S + END - 4);
        where("the last L of S", t, 7, false, 3 * 512 + 7);
        where("behind it", t, 512 + 7, false, -4);
        where("behind it, to write", t, 512 + 7, true, -8);
        t.special(8, 0x7FFFFFFC);
        where("ahead of S", t, 7, false, -4);
        where("S's first", t, 512 + 7, false, 5 * 512 + 7);
        t.special(8, 0xBFFFFFFC);
        where("S's last page is not within", t, 7, false, -4);
        where("behind S", t, 512, true, -8);
        t.special(8, -4);
        where("region 3", t, 7, false, -4);
        where("the sum wraps to region 0", t, 512, false, -4);
        t.special(8, S | Trial.PROCESS_TABLE);
        systemEntry(t, 6, 0x7FFFFFFF & 0xA0000006);
        where("the table's page is not valid", t, 7, false, -13);
        where("to write", t, 7, true, -17);
        where("of P1", t, 0x7FFFFFFF, false, -13);
        systemEntry(t, 6, 0x80000006);
        where("no rights are asked of it", t, 7, true, 16 * 512 + 7);
        systemEntry(t, 6, 0xA0000000 | 32);
        where("the entry is beyond memory", t, 7, true, -100);
        systemEntry(t, 6, 0xA01FFFFF);
        where("far beyond", t, 7, true, -100);
        t.special(12, END - 4);
        where("the last L of memory is S's first entry", t, S + 9, false, 3 * 512 + 9);
        where("the next is not there", t, S + 512, false, -100);
        t.special(12, END - 3);
        where("one byte is not there", t, S, false, -100);
        t.special(12, -4);
        where("beyond", t, S, false, -100);
        where("the sum wraps", t, S + 512 + 9, false, 5 * 512 + 9);
        Trial far = Trial.mapped("P0's table", 0xD5, Bench.at(512)).special(8, S + END - 4);
        far.run(1).fault(ACCESS, 0, 512, 3);
        Trial.mapped("to write", 0xD4, Bench.at(512)).special(8, S + END - 4).run(1).fault(ACCESS, 0, 512, 7);
        systemEntry(Trial.mapped("the table's page", 0xD5, Bench.at(5)), 6, 0x20000006).run(1).fault(MISSING, 0, 5, 2);
        systemEntry(Trial.mapped("to write", 0xD4, Bench.at(5)), 6, 0x20000006).run(1).fault(MISSING, 0, 5, 6);
        Trial gone = systemEntry(Trial.mapped("beyond memory", 0xD5, Bench.at(5)), 6, 0xA0000020);
        gone.run(1).fault(MACHINE_CHECK, 0, END);
        gone = systemEntry(Trial.mapped("the second page's entry", 0xD5, Bench.at(512)), 6, 0xA0000020);
        gone.run(1).fault(MACHINE_CHECK, 0, END + 4);
        Trial half = systemEntry(Trial.mapped("half an entry", 0xD5, Bench.at(5)), 6, 0xA000001F);
        half.special(8, (S | 6 * 512) + 510).run(1).fault(MACHINE_CHECK, 0, END);
    }

    /** The S entry of the page that P0's table lies in, at both ends of memory. */
    private static void tablesOfTables() {
        Bench.part("the table's own entry");
        int six = 4 * 6;
        Trial t = Trial.mapped("ends", 0x01).longs(END - 4, 0xA0000006).longs(0, 0xA0000006);
        t.special(12, END - 4 - six);
        where("the last L of memory", t, 7, false, 16 * 512 + 7);
        t.special(12, END - 3 - six);
        where("one byte is not there", t, 7, false, -100);
        t.special(12, END - six);
        where("none is", t, 7, true, -100);
        t.special(12, -six);
        where("the first L of memory", t, 9, false, 16 * 512 + 9);
        t.special(12, -six - 1);
        where("ahead of it", t, 7, false, -100);
        t.special(12, Trial.SYSTEM_TABLE).special(8, (S | Trial.PROCESS_TABLE) + 1).longs(Trial.PROCESS_TABLE + 1, 0xA0000013);
        where("a table at an odd address", t, 7, false, 19 * 512 + 7);
    }

    /** An entry that lies over its page's end goes on behind it physically, whatever S's next page is. */
    private static void entryOverPages() {
        Bench.part("an entry's four bytes");
        Trial t = Trial.mapped("entry over a page's end", 0xD4, Bench.at(4), 0x00).special(8, (S | 6 * 512) + 510);
        systemEntry(t, 7, 0xA0000014);
        t.longs(7 * 512 - 2, 0xA0000013).run(1).fine();
        t.holds(7 * 512 - 2, 4, 0xA4000013L).holds(20 * 512, 2, 0).kept(0, 0, 0xA4000013L);
    }

    private static void codes() {
        Bench.part("codes");
        for (int code = 0; code < 16; code++) {
            for (int mode = 0; mode < 4; mode++) {
                int status = mode << 24;
                Trial t = Trial.mapped("read, code " + code + ", mode " + mode, 0x95, Bench.at(1030), 0x00);
                entry(t, 2, 1 << 31 | code << 27 | 18).status(status).run(1);
                Trial u = Trial.mapped("write, code " + code + ", mode " + mode, 0x94, Bench.at(1030), 0x00);
                entry(u, 2, 1 << 31 | code << 27 | 18).status(status).run(1);
                if (mode <= READERS[code]) {
                    t.fine();
                } else {
                    t.fault(ACCESS, status, 1030, 0).state(6, 3).kept(2, -1, -1);
                }
                if (mode <= WRITERS[code]) {
                    u.fine();
                } else {
                    u.fault(ACCESS, status, 1030, 4).kept(2, -1, -1);
                }
                Bench.due("where, to read", t.x.where(1030, mode, false), mode <= READERS[code] ? 18 * 512 + 6 : -1);
                Bench.due("where, to write", t.x.where(1030, mode + 4, true), mode <= WRITERS[code] ? 18 * 512 + 6 : -5);
            }
        }
        entry(Trial.mapped("not valid", 0x95, Bench.at(1030)), 2, 4 << 27 | 18).run(1).fault(MISSING, 0, 1030, 0);
        entry(Trial.mapped("not valid, to write", 0x94, Bench.at(1030)), 2, 4 << 27 | 18).run(1).fault(MISSING, 0, 1030, 4);
        entry(Trial.mapped("rights come ahead", 0x95, Bench.at(1030)), 2, 18).run(1).fault(ACCESS, 0, 1030, 0);
        Trial changed = Trial.mapped("what is changed in place is asked for writing", 0x96, Bench.at(1030));
        entry(changed, 2, 1 << 31 | 3 << 27 | 18).run(1).fault(ACCESS, 0, 1030, 4);
        Trial written = Trial.mapped("a code that one may write with, but MOV only reads", 0x90, Bench.at(1030), 0x51);
        entry(written, 2, 1 << 31 | 3 << 27 | 18).run(1).fine();
    }

    private static void keptEntries() {
        Bench.part("kept entries");
        Trial t = Trial.mapped("a rest modulo 16", 0x95, Bench.at(5), 0x95, Bench.at(16 * 512 + 5), 0x95, Bench.at(FIRST_P1 + 5),
            0x95, Bench.at(15 * 512), 0x95, Bench.at(S), 0x95, Bench.at(S + 16 * 512), 0x00);
        entry(t, 16, 0xA0000013).special(9, 17);
        t.run(1).kept(0, 0, 0xA0000010L).state(6, 3);
        t.run(1).kept(0, 16 * 512, 0xA0000013L).state(6, 3);
        t.run(1).kept(0, 0x7FFFE000L, 0xA0000010L).state(6, 3);
        t.run(1).kept(15, 15 * 512, 0xA000001FL).state(6, 4);
        t.run(1).kept(16, 0x80000000L, 0xA0000000L).state(6, 5);
        t.run(1).kept(16, 0x80002000L, 0xA0000010L).state(6, 5).fine();
        t = Trial.mapped("one counts if its region and page are like", 0x90, Bench.at(5), 0x51, 0x90, Bench.at(5), 0x52,
            0x90, Bench.at(FIRST_P1 + 5), 0x53, 0x00);
        t.bytes(16 * 512 + 5, 0x11).bytes(17 * 512 + 5, 0x22).run(1).is(1, 0x11);
        entry(t, 0, 0xA0000011);
        t.run(1).is(2, 0x11).run(1).is(3, 0x22).fine();
        t = Trial.mapped("the table's page is kept", 0x95, Bench.at(5), 0x95, Bench.at(512), 0x95, Bench.at(1024)).run(1);
        systemEntry(t, 6, 0);
        t.run(1).fine().special(58, S | 6 * 512).run(1).pushed(MISSING, (S | Trial.CODE) + 12, 4, 1024, 2);
        t = Trial.mapped("rights are asked of kept ones, too", 0x95, Bench.at(5), 0x94, Bench.at(5));
        entry(t, 0, 1 << 31 | 3 << 27 | 16).run(1).fine().run(1).pushed(ACCESS, (S | Trial.CODE) + 6, 4, 5, 4);
        where("where takes the kept one", t, 5, false, -1);
        entry(t, 0, 0xA0000012);
        Bench.due("still the kept one", t.x.where(5, 0, false), 16 * 512 + 5);
        Bench.due("of another page its own", t.x.where(512, 0, false), 17 * 512);
    }

    private static void dropped() {
        Bench.part("entries that go");
        int[][] all = {{8, 2}, {9, 2}, {10, 2}, {11, 2}, {12, 0}, {13, 0}, {56, 0}, {57, 0}, {16, 4}, {17, 4}, {0, 4}, {25, 4}};
        for (int[] one : all) {
            Trial t = Trial.mapped("written " + one[0], 0x90, Bench.at(5), Bench.at(FIRST_P1 + 512)).run(1).state(6, 4);
            t.special(one[0], 1).state(6, one[1]);
            Bench.due("P0's", t.x.kept(0, 0), one[1] == 4 ? 1 : 0);
            Bench.due("P1's", t.x.kept(1, 0), one[1] == 4 ? 1 : 0);
            Bench.due("S's", t.x.kept(17, 0), one[1] > 0 ? 1 : 0);
        }
        int[][] lasts = {{8, 4}, {12, 0}, {13, 0}, {56, 0}, {57, 0}};
        for (int[] one : lasts) {
            Trial t = Trial.mapped("the last and the first of each half, written " + one[0], 0x90, Bench.at(15 * 512), Bench.at(S + 15 * 512), 0x95,
                Bench.at(S)).run(2).state(6, 5);
            Bench.due("16 and 31", t.x.kept(16, 0) + t.x.kept(31, 0) + t.x.kept(15, 0), 3);
            t.special(one[0], 1).state(6, one[1]).kept(15, -1, -1);
            Bench.due("16 and 31", t.x.kept(16, 0) + t.x.kept(31, 0), one[1] == 0 ? 0 : 2);
        }
        Trial same = Trial.mapped("whatever it is then", 0x95, Bench.at(5)).run(1).special(9, 16).state(6, 2).special(13, 32).state(6, 0);
        same.again().run(1).special(56, 1).state(6, 0);
        Trial t = Trial.mapped("TBIS", 0x95, Bench.at(5)).run(1).state(6, 3);
        t.special(58, 512).special(58, 16 * 512).special(58, FIRST_P1).special(58, S).special(58, 0xC0000000).state(6, 3);
        Trial next = Trial.mapped("TBIS leaves the next page's", 0xD5, Bench.at(510), 0x01).run(1).state(6, 4).special(58, 0).state(6, 3);
        next.kept(0, -1, -1).kept(1, 512, 0xA0000011L);
        t.special(58, 511).state(6, 2).kept(0, -1, -1);
        t.special(58, S + 511).state(6, 2).special(58, S + 1023).state(6, 1).kept(17, -1, -1).special(58, S + 0xC00).state(6, 0);
    }

    private static void modified() {
        Bench.part("MODIFIED");
        Trial t = Trial.mapped("reading", 0x95, Bench.at(5), 0x94, Bench.at(5), 0x94, Bench.at(6), 0x00).run(1);
        t.holds(Trial.PROCESS_TABLE, 4, 0xA0000010L).run(1);
        t.holds(Trial.PROCESS_TABLE, 4, 0xA4000010L).kept(0, 0, 0xA4000010L);
        entry(t, 0, 0xA0000010).run(1).holds(Trial.PROCESS_TABLE, 4, 0xA0000010L).fine();
        t = Trial.mapped("an entry that has it", 0x94, Bench.at(5));
        entry(t, 0, 0xA4000010).run(1).holds(Trial.PROCESS_TABLE, 4, 0xA4000010L).kept(0, 0, 0xA4000010L);
        t = Trial.mapped("of S, by a push", 0xDD, 0x01).run(1).fine();
        t.holds(Trial.SYSTEM_TABLE + 4 * 15, 4, 0xA400000FL).holds(Trial.SYSTEM_TABLE + 4 * 16, 4, 0xA0000010L);
        t.kept(31, 0x80001E00L, 0xA400000FL);
        t = Trial.mapped("where leaves it", 0x94, Bench.at(5));
        where("to write", t, 5, true, 16 * 512 + 5);
        t.holds(Trial.PROCESS_TABLE, 4, 0xA0000010L).state(6, 0).run(1).state(6, 3).holds(Trial.PROCESS_TABLE, 4, 0xA4000010L);
        t = Trial.mapped("the kept one's place", 0x95, Bench.at(5), 0x95, Bench.at(512), 0x94, Bench.at(5)).run(3).fine();
        t.holds(Trial.PROCESS_TABLE, 8, 0xA0000011A4000010L).kept(0, 0, 0xA4000010L).kept(1, 512, 0xA0000011L);
        readsOnly();
    }

    /** What only reads leaves MODIFIED, and needs no right to write. */
    private static void readsOnly() {
        readOnly("RSB", Trial.mapped("RSB", 0x05).reg(14, 4));
        readOnly("RET", Trial.mapped("RET", 0x04).reg(13, 4).longs(16 * 512 + 8, 0x28010000));
        readOnly("POPR", Trial.mapped("POPR", 0xBA, 0x03).reg(14, 4));
        readOnly("REI", Trial.mapped("REI", 0x02).reg(14, 4));
        readOnly("SVPCTX", Trial.mapped("SVPCTX", 0x07).reg(14, 4).special(16, Trial.DATA));
        readOnly("CALLG's mask", Trial.mapped("CALLG", 0xFA, Bench.at(0), Bench.at(4)));
        readOnly("CASE's table", Trial.mapped("CASE", 0x01).bytes(16 * 512, 0x8F, 0x00, 0x00, 0x00, 0x00, 0x00).reg(15, 0));
        readOnly("LOCC", Trial.mapped("LOCC", 0x3A, 0x01, 0x04, Bench.at(4)));
        readOnly("SCANC", Trial.mapped("SCANC", 0x2A, 0x04, Bench.at(4), Bench.at(4), 0x01));
        readOnly("CMPC3", Trial.mapped("CMPC3", 0x29, 0x04, Bench.at(4), Bench.at(8)));
        readOnly("CRC", Trial.mapped("CRC", 0x0B, Bench.at(4), 0x00, 0x04, Bench.at(4)));
        readOnly("MATCHC", Trial.mapped("MATCHC", 0x39, 0x01, Bench.at(4), 0x02, Bench.at(4)));
        readOnly("MOVC3's first", Trial.mapped("MOVC3", 0x28, 0x04, Bench.at(4), Bench.at(S + Trial.DATA)));
        readOnly("MOVTC's table", Trial.mapped("MOVTC", 0x2E, 0x01, Bench.at(4), 0x00, Bench.at(4), 0x01, Bench.at(S + Trial.DATA)));
        readOnly("EXTV", Trial.mapped("EXTV", 0xEE, 0x03, 0x07, Bench.at(4), 0x51));
        readOnly("CMPV", Trial.mapped("CMPV", 0xEC, 0x03, 0x07, Bench.at(4), 0x51));
        readOnly("FFS", Trial.mapped("FFS", 0xEA, 0x03, 0x07, Bench.at(4), 0x51));
        readOnly("BBS", Trial.mapped("BBS", 0xE0, 0x03, Bench.at(4), 0x00));
        readOnly("an empty queue, from its head", Trial.mapped("REMQHI", 0x5E, Bench.at(8), 0x51));
        readOnly("an empty queue, from its tail", Trial.mapped("REMQTI", 0x5F, Bench.at(8), 0x51));
        readOnly("a decimal", Trial.mapped("CVTPL", 0x36, 0x00, Bench.at(4), 0x51).bytes(16 * 512 + 4, 0x0C));
        readOnly("digits", Trial.mapped("CVTSP", 0x09, 0x00, Bench.at(4), 0x00, Bench.at(S + Trial.DATA)).bytes(16 * 512 + 4, '+'));
        readOnly("a table back", Trial.mapped("CVTTP", 0x26, 0x01, Bench.at(4), Bench.at(4), 0x01, Bench.at(S + Trial.DATA)).bytes(16 * 512 + 4, 0x0C)
            .bytes(16 * 512 + 16, 0x0C));
        readOnly("a table", Trial.mapped("CVTPT", 0x24, 0x00, Bench.at(4), Bench.at(4), 0x01, Bench.at(S + Trial.DATA)).bytes(16 * 512 + 4, 0x0C));
        readOnly("a pattern", Trial.mapped("EDITPC", 0x38, 0x00, Bench.at(4), Bench.at(6), Bench.at(S + Trial.DATA)).bytes(16 * 512 + 4, 0x0C));
        readOnly("an address", Trial.mapped("@(R1)+", 0xD5, 0x91).reg(1, 4));
        readOnly("an address at a displacement", Trial.mapped("@4(R1)", 0xD5, 0xB1, 4).reg(1, 0));
    }

    private static void readOnly(String what, Trial t) {
        t.longs(Trial.PROCESS_TABLE, 1 << 31 | 15 << 27 | 16).run(1).fine().holds(Trial.PROCESS_TABLE, 4, 0xF8000010L).kept(0, 0, 0xF8000010L);
    }

    /** Each write asks for writing: a page that may only be read is refused. */
    private static void writes() {
        Bench.part("what writes");
        notWritten(Trial.mapped("PUSHL", 0xDD, 0x01).reg(14, 12), 8);
        notWritten(Trial.mapped("BSB", 0x10, 0x00).reg(14, 12), 8);
        notWritten(Trial.mapped("PUSHR", 0xBB, 0x01).reg(14, 12), 8);
        notWritten(Trial.mapped("CALLG", 0xFA, Bench.at(0), Bench.at(S + Trial.DATA)).reg(14, 12), 8);
        notWritten(Trial.mapped("the count of CALLS", 0xFB, 0x00, Bench.at(S + Trial.DATA)).reg(14, 12), 8);
        notWritten(Trial.mapped("INSQUE", 0x0E, Bench.at(8), Bench.at(S + Trial.DATA)).longs(Trial.DATA, S + Trial.DATA), 8);
        notWritten(Trial.mapped("REMQUE", 0x0F, Bench.at(S + Trial.DATA), 0x51).longs(Trial.DATA, S + Trial.DATA + 8, 8), 8);
        notWritten(Trial.mapped("INSQHI", 0x5C, Bench.at(S + Trial.DATA), Bench.at(8)).longs(16 * 512 + 8, S, S), 8);
        notWritten(Trial.mapped("INSV", 0xF0, 0x01, 0x00, 0x03, Bench.at(8)), 8);
        notWritten(Trial.mapped("BBSS", 0xE2, 0x00, Bench.at(8), 0x00), 8);
        notWritten(Trial.mapped("MOVP", 0x34, 0x00, Bench.at(S + Trial.DATA), Bench.at(8)).bytes(Trial.DATA, 0x0C), 8);
        notWritten(Trial.mapped("CVTPS", 0x08, 0x00, Bench.at(S + Trial.DATA), 0x00, Bench.at(8)).bytes(Trial.DATA, 0x0C), 8);
        notWritten(Trial.mapped("INCL", 0xD6, Bench.at(8)), 8);
        notWritten(Trial.mapped("MFPR", 0xDB, 0x12, Bench.at(8)), 8);
        Trial t = Trial.mapped("MOVC3", 0x28, 0x01, Bench.at(S + Trial.DATA), Bench.at(8));
        t.longs(Trial.PROCESS_TABLE, 1 << 31 | 15 << 27 | 16).run(1).fault(ACCESS, 0x08000000, 8, 4);
    }

    private static void notWritten(Trial t, int address) {
        t.longs(Trial.PROCESS_TABLE, 1 << 31 | 15 << 27 | 16).run(1).fault(ACCESS, 0, address, 4).holds(Trial.PROCESS_TABLE, 4, 0xF8000010L);
    }

    private static void twoPages() {
        Bench.part("accesses that lie in two pages");
        for (int i = 1; i < 4; i++) {
            Trial t = Trial.mapped("an L", 0xD0, Bench.l(0x44332211), Bench.at(512 - i), 0xD0, Bench.at(512 - i), 0x51, 0x00);
            entry(t, 1, 0xA0000014).run(2).fine().is(1, 0x44332211);
            t.holds(17 * 512 - 1, 1, i == 1 ? 0x11 : i == 2 ? 0x22 : 0x33).holds(20 * 512, 1, 0x11 * (i + 1)).holds(17 * 512, 4, 0);
            t.holds(Trial.PROCESS_TABLE, 8, 0xA4000014A4000010L);
        }
        entry(Trial.mapped("the last L of one page", 0xD5, Bench.at(508)), 1, 0).run(1).fine();
        entry(Trial.mapped("the last Q of one page", 0x7C, Bench.at(504)), 1, 0).run(1).fine();
        entry(Trial.mapped("a Q in two", 0x7C, Bench.at(505)), 1, 0x20000011).run(1).fault(MISSING, 0, 512, 4);
        Trial second = entry(Trial.mapped("MODIFIED stays, nothing is written", 0xD2, 0x00, Bench.at(509)), 1, 0xA8000011 & ~(15 << 27));
        second.run(1).fault(ACCESS, 0, 512, 4).holds(17 * 512 - 3, 4, 0).holds(Trial.PROCESS_TABLE, 4, 0xA4000010L);
        Trial both = entry(Trial.mapped("from the first on", 0xD5, Bench.at(509)), 0, 0x20000010);
        entry(both, 1, 0x00000011).run(1).fault(MISSING, 0, 509, 0);
        Trial order = entry(Trial.mapped("all are translated ahead", 0xD5, Bench.at(509)), 0, 0xA0000020);
        entry(order, 1, 0x20000011).run(1).fault(MISSING, 0, 512, 0);
        Trial lowest = entry(Trial.mapped("the lowest first", 0xD5, Bench.at(509)), 0, 0xA0000022);
        entry(lowest, 1, 0xA0000021).run(1).fault(MACHINE_CHECK, 0, 34 * 512 + 509);
        Trial upper = entry(Trial.mapped("the second one", 0xD4, Bench.at(509)), 1, 0xA0000021);
        upper.run(1).fault(MACHINE_CHECK, 0, 33 * 512).holds(17 * 512 - 3, 2, 0).holds(Trial.PROCESS_TABLE, 8, 0xA4000021A4000010L);
        Trial.mapped("from P0's last page on", 0xD5, Bench.at(16 * 512 - 1)).run(1).fault(ACCESS, 0, 16 * 512, 1);
        Trial.mapped("from P1 on to S", 0xD0, Bench.at(0x7FFFFFFE), 0x51).bytes(END - 2, 1, 2).bytes(0, 3, 4).run(1).fine().is(1, 0x04030201);
        Trial.mapped("from S on to nothing", 0xD5, Bench.at(S + END - 1)).run(1).fault(ACCESS, 0, S + END, 1);
        Trial.mapped("a page beyond memory", 0x95, Bench.at(3)).longs(Trial.PROCESS_TABLE, 0xA01FFFFF).run(1)
            .fault(MACHINE_CHECK, 0, 0x3FFFFE03);
    }

    private static void instructionBytes() {
        Bench.part("instruction bytes");
        Trial t = Trial.of("the last byte of memory", 0x01).bytes(END - 1, 0x01).reg(15, END - 1).run(1).fine().is(15, END);
        t.run(1).pushed(MACHINE_CHECK, END, 0, END);
        Trial.of("an operand behind memory", 0x01).bytes(END - 2, 0xD5, 0x8F).reg(15, END - 2).run(1).pushed(MACHINE_CHECK, END - 2, 0, END);
        Trial.of("an opcode at the last address", 0x01).reg(15, -1).run(1).pushed(MACHINE_CHECK, -1, 0, -1);
        t = Trial.mapped("the last byte of a page", 0x01).bytes(17 * 512 - 1, 0x01).reg(15, 511);
        entry(t, 1, 0x20000011).run(1).fine().is(15, 512).run(1).pushed(MISSING, 512, 0, 512, 0);
        t = Trial.mapped("a byte in the next page", 0x01).bytes(17 * 512 - 2, 0xD5, 0x81).reg(15, 510).reg(1, 4);
        entry(t, 1, 0x20000011).run(1).fine();
        t = Trial.mapped("registers are as at the beginning", 0x01).bytes(17 * 512 - 2, 0xD0, 0x81).reg(15, 510).reg(1, 4);
        entry(t, 1, 0x20000011).run(1).pushed(MISSING, 510, 0, 512, 0).is(1, 4);
        t = Trial.mapped("for reading", 0x01).bytes(16 * 512, 0x01).reg(15, 0);
        entry(t, 0, 1 << 31 | 15 << 27 | 16).status(0x03000000).run(1).fine();
        t = Trial.mapped("in the mode at hand", 0x01).reg(15, 0);
        entry(t, 0, 1 << 31 | 6 << 27 | 16).status(0x02000000).run(1).pushed(ACCESS, 0, 0x02000000, 0, 0);
    }

    private static void sums() {
        Bench.part("sums of addresses wrap");
        Trial.of("displacement upwards", 0xD0, 0xA1, 8, 0x52).reg(1, -4).longs(4, 0x1234).run(1).fine().is(2, 0x1234);
        Trial.of("displacement downwards", 0xD0, 0xA1, 0xF8, 0x52).reg(1, 4).run(1).fault(MACHINE_CHECK, 0, -4);
        Trial.of("an L displacement", 0xDE, 0xE1, Bench.spread(0x7FFFFFFF, 4), 0x52).reg(1, 0x7FFFFFFF).run(1).fine().is(2, -2);
        Trial.of("an index", 0xD0, 0x41, 0x9F, Bench.spread(4, 4), 0x52).reg(1, 0x40000001).longs(8, 77).run(1).fine().is(2, 77);
        Trial.of("a Q's index", 0x7E, 0x41, 0x9F, Bench.spread(4, 4), 0x52).reg(1, 0x20000001).run(1).fine().is(2, 12);
        Trial.of("upwards from the last", 0xDE, 0x81, 0x52).reg(1, -4).run(1).fine().is(1, 0).is(2, -4);
        Trial.of("downwards from 0", 0xDE, 0x71, 0x52).reg(1, 0).run(1).fine().is(1, -4).is(2, -4);
        Trial.of("a branch", 0x01).bytes(0, 0x11, 0x80).reg(15, 0).run(1).fine().is(15, -126);
        Trial.of("a push", 0xDD, 0x01).reg(14, 0).run(1).fault(MACHINE_CHECK, 0, -4).reads(0, 0);
        Trial.of("a push at the first bytes", 0xDD, 0x2A).reg(14, 4).run(1).fine().holds(0, 4, 0x2A).is(14, 0);
        Trial.of("a push half above 0", 0xDD, 0x2A).reg(14, 2).run(1).fault(MACHINE_CHECK, 0, -2).holds(0, 4, 0);
        Trial.of("a pop at the last bytes", 0x05).reg(14, END - 4).longs(END - 4, 0x300).run(1).fine().is(14, END).is(15, 0x300);
        Trial.of("a pop behind them", 0x05).reg(14, END - 3).run(1).fault(MACHINE_CHECK, 0, END);
        Trial.of("a pop far behind", 0x05).reg(14, -4).run(1).fault(MACHINE_CHECK, 0, -4);
    }

    public static void main(String[] args) {
        unmapped();
        lengths();
        tables();
        tablesOfTables();
        entryOverPages();
        codes();
        keptEntries();
        dropped();
        modified();
        writes();
        twoPages();
        instructionBytes();
        sums();
        Bench.end("edges of memory");
    }
}
