/**
 * A computer with four rings of rights. The document that tells what it does is DOC.md; this class is its console,
 * and the classes inside it are its parts: what it holds, how it reaches memory, its specials and devices, its
 * operands, and the groups of its instructions.
 */
public final class RingComputer {
    private static final int AP = 12;
    private static final int FP = 13;
    private static final int SP = 14;
    private static final int PC = 15;
    private static final int STATUS = 16;

    private static final int BIT_C = 1;
    private static final int BIT_V = 2;
    private static final int BIT_Z = 4;
    private static final int BIT_N = 8;
    private static final int BIT_T = 1 << 4;
    private static final int BIT_IV = 1 << 5;
    private static final int BIT_FU = 1 << 6;
    private static final int BIT_DV = 1 << 7;
    private static final int BIT_IS = 1 << 26;
    private static final int BIT_FPD = 1 << 27;
    private static final int BIT_TP = 1 << 30;
    private static final int STATUS_BITS = 0x4FDF00FF;
    private static final int FIRST_STATUS = 0x041F0000;

    private static final int MACHINE_CHECK = 4;
    private static final int STACK_NOT_VALID = 8;
    private static final int RESERVED_INSTRUCTION = 16;
    private static final int RESERVED_OPERAND = 24;
    private static final int ADDRESSING_FAULT = 28;
    private static final int ACCESS = 32;
    private static final int MISSING = 36;
    private static final int TRACE = 40;
    private static final int BREAK = 44;
    private static final int ARITHMETIC = 52;
    private static final int CHANGE_MODE = 64;
    private static final int SOFTWARE = 128;

    private static final int SYSTEM_BASE = 12;
    private static final int SYSTEM_LENGTH = 13;
    private static final int BLOCK_BASE = 16;
    private static final int VECTOR_BASE = 17;
    private static final int AST_LEVEL = 19;
    private static final int SOFTWARE_BITS = 21;
    private static final int CLOCK_CONTROL = 24;
    private static final int CLOCK_NEXT = 25;
    private static final int CLOCK_COUNT = 26;
    private static final int DAY = 27;
    private static final int KEY_CONTROL = 32;
    private static final int KEY_BYTE = 33;
    private static final int TYPE_CONTROL = 34;
    private static final int DISK_SECTOR = 48;
    private static final int DISK_ADDRESS = 49;
    private static final int DISK_CONTROL = 50;
    private static final int MAPEN = 56;

    private static final int KEY_REQUEST = 0;
    private static final int TYPED_REQUEST = 1;
    private static final int DISK_REQUEST = 2;
    private static final int CLOCK_REQUEST = 3;

    private static final int TYPE_WAIT = 0;
    private static final int DISK_WAIT = 1;
    private static final int DISK_COMMAND = 2;

    private static final int HALT_KIND = 0;
    private static final int STEPS = 1;
    private static final int TAKEN = 2;
    private static final int LATEST = 3;
    private static final int TYPED_ALL = 4;
    private static final int ENDED = 7;

    private static final int BY_INSTRUCTION = 1;
    private static final int BY_EXCEPTION = 2;
    private static final int BY_OTHERS = 3;

    private static final int PAGE = 512;
    private static final int TAPE_BYTES = 1000;

    private final State now;
    private final State[] places = new State[2];
    private final Memory reach;
    private final Specials specials;
    private final Processor processor;
    private final byte[] tape = new byte[TAPE_BYTES];
    private final int pages;
    private final int sectors;
    private int taped;

    public RingComputer(int pages, int sectors) {
        this.pages = pages >= 8 && pages <= 128 ? pages : 32;
        this.sectors = sectors >= 0 && sectors <= 64 ? sectors : 8;
        now = new State(this.pages, this.sectors);
        reach = new Memory(now);
        specials = new Specials(now);
        processor = new Processor(now, reach, specials);
    }

    public boolean feed(int a, int b, int c, int d, int e) {
        if (taped + 20 > TAPE_BYTES) {
            return false;
        }
        tapeFour(a);
        tapeFour(b);
        tapeFour(c);
        tapeFour(d);
        tapeFour(e);
        return true;
    }

    private void tapeFour(int word) {
        for (int i = 0; i < 4 && taped < TAPE_BYTES; i++) {
            tape[taped] = (byte) (word >>> 24 - 8 * i);
            taped++;
        }
    }

    public boolean load(int address, int n) {
        if (n < 1 || n > taped || address < 0 || address > now.memory.length - n) {
            return false;
        }
        System.arraycopy(tape, 0, now.memory, address, n);
        taped = 0;
        return true;
    }

    public boolean stow(int sector, int n) {
        if (sector < 0 || sector >= sectors || n < 1 || n > PAGE || n > taped) {
            return false;
        }
        for (int i = 0; i < PAGE; i++) {
            now.disk[sector * PAGE + i] = i < n ? tape[i] : 0;
        }
        taped = 0;
        return true;
    }

    public int run(int n) {
        if (n < 1 || n > 2000) {
            return -1;
        }
        int found = 0;
        for (int i = 0; i < n && now.counts[HALT_KIND] == 0; i++) {
            found++;
            now.counts[STEPS]++;
            specials.goOn();
            if (!processor.interrupted()) {
                processor.decode();
                processor.execute();
                processor.conclude();
            }
        }
        return found;
    }

    public long register(int k) {
        return k >= 0 && k <= STATUS ? now.registers[k] & 0xFFFFFFFFL : -1;
    }

    public boolean set(int k, int v) {
        if (k < 0 || k > STATUS) {
            return false;
        }
        if (k == STATUS) {
            now.changeStatus(v & STATUS_BITS);
        } else {
            now.registers[k] = v;
        }
        return true;
    }

    public long special(int k) {
        return specials.readable(k) ? specials.valueOf(k) & 0xFFFFFFFFL : -1;
    }

    public boolean write(int k, int v) {
        return specials.put(k, v);
    }

    public long memory(int address, int size) {
        boolean known = size == 1 || size == 2 || size == 4 || size == 8;
        if (!known || address < 0 || address > now.memory.length - size) {
            return -1;
        }
        long value = 0;
        for (int i = size - 1; i >= 0; i--) {
            value = value << 8 | now.memory[address + i] & 255;
        }
        return value;
    }

    public long where(int address, int mode, boolean write) {
        reach.clear();
        boolean found = reach.probe(address, write, mode & 3);
        int trouble = reach.trouble;
        int number = reach.two;
        reach.clear();
        if (found) {
            return reach.inside(reach.at) ? reach.at : -100;
        }
        if (trouble == ACCESS) {
            return -1 - number;
        }
        return trouble == MISSING ? -11 - number : -100;
    }

    public boolean key(int c) {
        return c >= 0 && c <= 255 && specials.keyComes(c);
    }

    public int typed(int i) {
        if (i < 0 || i > 63 || i >= now.counts[TYPED_ALL]) {
            return -1;
        }
        return now.typedBytes[now.counts[TYPED_ALL] - 1 - i & 63] & 255;
    }

    public boolean go(int address) {
        if (now.counts[HALT_KIND] == 0) {
            return false;
        }
        now.registers[PC] = address;
        now.counts[HALT_KIND] = 0;
        return true;
    }

    public boolean halt() {
        if (now.counts[HALT_KIND] != 0) {
            return false;
        }
        now.counts[HALT_KIND] = BY_OTHERS;
        return true;
    }

    public boolean proceed() {
        if (now.counts[HALT_KIND] == 0) {
            return false;
        }
        now.counts[HALT_KIND] = 0;
        return true;
    }

    public boolean boot(int sector, int many, int address) {
        if (now.counts[HALT_KIND] == 0 || sector < 0 || sector >= sectors || many < 1 || many > sectors - sector) {
            return false;
        }
        if (address < 0 || address > now.memory.length - many * PAGE) {
            return false;
        }
        System.arraycopy(now.disk, sector * PAGE, now.memory, address, many * PAGE);
        now.begin();
        now.registers[SP] = address + many * PAGE;
        now.registers[PC] = address;
        now.counts[HALT_KIND] = 0;
        return true;
    }

    public boolean keep(int place) {
        if (place < 0 || place > 1) {
            return false;
        }
        if (places[place] == null) {
            places[place] = new State(pages, sectors);
        }
        places[place].copyFrom(now);
        return true;
    }

    public boolean back(int place) {
        if (place < 0 || place > 1 || places[place] == null) {
            return false;
        }
        now.copyFrom(places[place]);
        return true;
    }

    public int disk(int sector, int i) {
        if (sector < 0 || sector >= sectors || i < 0 || i >= PAGE) {
            return -1;
        }
        return now.disk[sector * PAGE + i] & 255;
    }

    public long kept(int i, int what) {
        if (i < 0 || i > 31 || what < 0 || what > 2) {
            return -1;
        }
        boolean there = now.keptPages[i] != 0;
        if (what == 0) {
            return there ? 1 : 0;
        }
        if (!there) {
            return -1;
        }
        return (what == 1 ? now.keptPages[i] & -PAGE : now.keptEntries[i]) & 0xFFFFFFFFL;
    }

    public int state(int what) {
        if (what < 0 || what > ENDED) {
            return -1;
        }
        if (what == 5) {
            return taped;
        }
        return what == 6 ? now.keptMany() : now.counts[what];
    }

    /** All that there is but the tape: one row a kind of thing, so that it is kept and brought back by copying rows. */
    private static final class State {
        final int[] registers = new int[17];
        final int[] specials = new int[64];
        final byte[] memory;
        final byte[] disk;
        /** The address of the page's first byte, with bit 0 telling that there is one. */
        final int[] keptPages = new int[32];
        final int[] keptEntries = new int[32];
        /** Where in memory the entry lies, for setting its MODIFIED. */
        final int[] keptPlaces = new int[32];
        final byte[] typedBytes = new byte[64];
        final int[] counts = new int[8];
        final boolean[] requests = new boolean[4];
        final int[] waits = new int[3];

        State(int pages, int sectors) {
            memory = new byte[pages * PAGE];
            disk = new byte[sectors * PAGE];
            begin();
            counts[HALT_KIND] = BY_OTHERS;
        }

        /** All that a new object and boot have in common. */
        private void begin() {
            for (int i = 0; i < registers.length; i++) {
                registers[i] = 0;
            }
            registers[STATUS] = FIRST_STATUS;
            for (int i = 0; i < specials.length; i++) {
                if (i != DAY && i != KEY_BYTE) {
                    specials[i] = 0;
                }
            }
            specials[TYPE_CONTROL] = 128;
            specials[DISK_CONTROL] = 128;
            forget(0, 32);
            for (int i = 0; i < requests.length; i++) {
                requests[i] = false;
            }
            for (int i = 0; i < waits.length; i++) {
                waits[i] = 0;
            }
        }

        void copyFrom(State from) {
            System.arraycopy(from.registers, 0, registers, 0, registers.length);
            System.arraycopy(from.specials, 0, specials, 0, specials.length);
            if (from.memory.length == memory.length && from.disk.length == disk.length) {
                System.arraycopy(from.memory, 0, memory, 0, memory.length);
                System.arraycopy(from.disk, 0, disk, 0, disk.length);
            }
            System.arraycopy(from.keptPages, 0, keptPages, 0, keptPages.length);
            System.arraycopy(from.keptEntries, 0, keptEntries, 0, keptEntries.length);
            System.arraycopy(from.keptPlaces, 0, keptPlaces, 0, keptPlaces.length);
            System.arraycopy(from.typedBytes, 0, typedBytes, 0, typedBytes.length);
            System.arraycopy(from.counts, 0, counts, 0, counts.length);
            for (int i = 0; i < requests.length; i++) {
                requests[i] = from.requests[i];
            }
            System.arraycopy(from.waits, 0, waits, 0, waits.length);
        }

        /** Drops kept entries from one slot on up to another. */
        void forget(int from, int to) {
            for (int i = from; i < to && i < 32; i++) {
                keptPages[i] = 0;
                keptEntries[i] = 0;
                keptPlaces[i] = 0;
            }
        }

        int keptMany() {
            int many = 0;
            for (int i = 0; i < 32; i++) {
                if (keptPages[i] != 0) {
                    many++;
                }
            }
            return many;
        }

        int mode() {
            return registers[STATUS] >>> 24 & 3;
        }

        int stack() {
            int status = registers[STATUS];
            return (status & BIT_IS) != 0 ? 4 : status >>> 24 & 3;
        }

        int stackPointer(int k) {
            return k == stack() ? registers[SP] : specials[k];
        }

        void putStackPointer(int k, int v) {
            if (k == stack()) {
                registers[SP] = v;
            } else {
                specials[k] = v;
            }
        }

        void changeStatus(int status) {
            specials[stack()] = registers[SP];
            registers[STATUS] = status;
            registers[SP] = specials[stack()];
        }

        void flags(boolean n, boolean z, boolean v, boolean c) {
            int bits = (n ? BIT_N : 0) | (z ? BIT_Z : 0) | (v ? BIT_V : 0) | (c ? BIT_C : 0);
            registers[STATUS] = registers[STATUS] & ~15 | bits;
        }

        /** N and Z of a result, V 0; C stays. */
        void signFlags(long result) {
            flags(result < 0, result == 0, false, (registers[STATUS] & BIT_C) != 0);
        }

        boolean has(int bit) {
            return (registers[STATUS] & bit) != 0;
        }
    }

    /** How addresses become bytes: translations, accesses, and what is told of one that fails. */
    private static final class Memory {
        private static final int[] WRITERS = {-1, -1, 0, -1, 3, 1, 0, -1, 2, 1, 0, -1, 2, 1, 0, -1};
        private static final int[] READERS = {-1, -1, 0, 0, 3, 1, 1, 1, 2, 2, 2, 2, 3, 3, 3, 3};
        private static final int MODIFIED = 1 << 26;
        private static final int FOUND = -1;
        private static final int NOT_THERE = 4;

        private final State now;
        /** The offset of the fault that came; 0 if none has. */
        int trouble;
        int parameters;
        int one;
        int two;
        /** The physical address of the latest translation. */
        int at;
        /** The access at hand: so many bytes from the first place on, all others from the second one. */
        int first;
        int near;
        int second;
        private int entry;
        private int entryAt;
        private boolean quiet;

        Memory(State now) {
            this.now = now;
        }

        void clear() {
            trouble = 0;
            parameters = 0;
            one = 0;
            two = 0;
        }

        boolean raise(int offset) {
            trouble = offset;
            parameters = 0;
            return false;
        }

        boolean raiseNumber(int offset, int number) {
            trouble = offset;
            parameters = 1;
            one = number;
            return false;
        }

        boolean inside(int place) {
            return place >= 0 && place < now.memory.length;
        }

        /** Whether all bytes of a physical row are in memory; else a MACHINE CHECK tells the first that is not. */
        boolean allInside(int place, int size) {
            if (!inside(place)) {
                return raiseNumber(MACHINE_CHECK, place);
            }
            if (place > now.memory.length - size) {
                return raiseNumber(MACHINE_CHECK, now.memory.length);
            }
            return true;
        }

        /** The L at a physical address, which has been asked for. */
        int longAt(int place) {
            byte[] bytes = now.memory;
            if (place < 0 || place > bytes.length - 4) {
                return 0;
            }
            return bytes[place] & 255 | (bytes[place + 1] & 255) << 8 | (bytes[place + 2] & 255) << 16
                | bytes[place + 3] << 24;
        }

        void putLongAt(int place, int value) {
            byte[] bytes = now.memory;
            for (int i = 0; i < 4; i++) {
                if (place >= 0 && place < bytes.length - i) {
                    bytes[place + i] = (byte) (value >>> 8 * i);
                }
            }
        }

        static int slotOf(int address) {
            return (address >>> 30 == 2 ? 16 : 0) + (address >>> 9 & 15);
        }

        static int tagOf(int address) {
            return address & -PAGE | 1;
        }

        /** Finds the physical address of a byte (at), keeping the entries on the way; false if that is a fault. */
        boolean translate(int address, boolean write, int mode) {
            if (now.specials[MAPEN] == 0) {
                at = address;
                return true;
            }
            int slot = slotOf(address);
            if (now.keptPages[slot] == tagOf(address)) {
                entry = now.keptEntries[slot];
                entryAt = now.keptPlaces[slot];
            } else {
                int found = find(address);
                if (found == NOT_THERE) {
                    return allInside(entryAt, 4);
                }
                if (found != FOUND) {
                    return refuse(found == 2 ? MISSING : ACCESS, address, found, write);
                }
            }
            int code = entry >>> 27 & 15;
            if (mode > (write ? WRITERS[code] : READERS[code])) {
                return refuse(ACCESS, address, 0, write);
            }
            if (entry >= 0) {
                return refuse(MISSING, address, 0, write);
            }
            at = (entry & 0x1FFFFF) << 9 | address & 511;
            if (!quiet) {
                if (write && (entry & MODIFIED) == 0) {
                    entry |= MODIFIED;
                    markModified(entryAt + 3);
                }
                keepEntry(slot, tagOf(address), entry, entryAt);
            }
            return true;
        }

        private void markModified(int place) {
            if (inside(place)) {
                now.memory[place] |= 4;
            }
        }

        private void keepEntry(int slot, int tag, int value, int place) {
            now.keptPages[slot] = tag;
            now.keptEntries[slot] = value;
            now.keptPlaces[slot] = place;
        }

        private boolean refuse(int offset, int address, int number, boolean write) {
            trouble = offset;
            parameters = 2;
            one = address;
            two = write ? number + 4 : number;
            return false;
        }

        /** Reads the entry of a page that has none kept: FOUND, the number of its fault, or NOT_THERE. */
        private int find(int address) {
            int region = address >>> 30;
            int page = address >>> 9 & 0x1FFFFF;
            if (!withinLengths(region, page)) {
                return 1;
            }
            int place = now.specials[SYSTEM_BASE] + 4 * page;
            if (region != 2) {
                int own = now.specials[8 + 2 * region] + 4 * page;
                int ownPage = own >>> 9 & 0x1FFFFF;
                if (own >>> 30 != 2 || !withinLengths(2, ownPage)) {
                    return 3;
                }
                int slot = slotOf(own);
                int system = now.keptEntries[slot];
                if (now.keptPages[slot] != tagOf(own)) {
                    entryAt = now.specials[SYSTEM_BASE] + 4 * ownPage;
                    if (entryAt < 0 || entryAt > now.memory.length - 4) {
                        return NOT_THERE;
                    }
                    system = longAt(entryAt);
                    if (system >= 0) {
                        return 2;
                    }
                    if (!quiet) {
                        keepEntry(slot, tagOf(own), system, entryAt);
                    }
                }
                place = (system & 0x1FFFFF) << 9 | own & 511;
            }
            entryAt = place;
            if (place < 0 || place > now.memory.length - 4) {
                return NOT_THERE;
            }
            entry = longAt(place);
            return FOUND;
        }

        private boolean withinLengths(int region, int page) {
            switch (region) {
                case 0:
                    return page < now.specials[9];
                case 1:
                    return page >= now.specials[11];
                case 2:
                    return page < now.specials[SYSTEM_LENGTH];
                default:
                    return false;
            }
        }

        /** Translates without keeping or changing anything. */
        boolean probe(int address, boolean write, int mode) {
            quiet = true;
            boolean found = translate(address, write, mode);
            quiet = false;
            return found;
        }

        /** Begins an access of at most 512 bytes: all pages are translated, then all bytes must be in memory. */
        boolean open(int address, int size, boolean write, int mode) {
            int inFirst = Math.min(size, PAGE - (address & 511));
            if (!translate(address, write, mode)) {
                return false;
            }
            first = at;
            near = inFirst;
            if (inFirst < size) {
                if (!translate(address + inFirst, write, mode)) {
                    return false;
                }
                second = at;
            }
            if (!inside(first)) {
                return raiseNumber(MACHINE_CHECK, first);
            }
            if (inFirst < size && !inside(second)) {
                return raiseNumber(MACHINE_CHECK, second);
            }
            return true;
        }

        /** Byte i of the access at hand. */
        int byteOf(int i) {
            int place = i < near ? first + i : second + i - near;
            return place >= 0 && place < now.memory.length ? now.memory[place] & 255 : 0;
        }

        void putByte(int i, int value) {
            int place = i < near ? first + i : second + i - near;
            if (place >= 0 && place < now.memory.length) {
                now.memory[place] = (byte) value;
            }
        }

        /** The first bytes of the access at hand, at most eight, without sign. */
        long value(int size) {
            long whole = 0;
            for (int i = size - 1; i >= 0; i--) {
                whole = whole << 8 | byteOf(i);
            }
            return whole;
        }

        /** Puts bytes of a value from byte i of the access at hand on. */
        void putValue(int i, int size, long value) {
            for (int k = 0; k < size; k++) {
                putByte(i + k, (int) (value >>> 8 * k));
            }
        }

        /** One byte read in the mode at hand; -1 if that is a fault. */
        int peek(int address) {
            if (!translate(address, false, now.mode())) {
                return -1;
            }
            if (!inside(at)) {
                raiseNumber(MACHINE_CHECK, at);
                return -1;
            }
            return now.memory[at] & 255;
        }
    }

    /** The specials, and the clock, terminal and disk behind them. */
    private static final class Specials {
        private static final int RUN = 1;
        private static final int TRANSFER = 16;
        private static final int SINGLE = 32;
        private static final int ENABLED = 64;
        private static final int READY = 128;
        private static final int FAILED = 1 << 15;
        private static final int LATE = 1 << 31;

        private final State now;

        Specials(State now) {
            this.now = now;
        }

        boolean readable(int k) {
            switch (k) {
                case 0: case 1: case 2: case 3: case 4:
                case 8: case 9: case 10: case 11: case 12: case 13:
                case 16: case 17: case 18: case 19: case 21:
                case CLOCK_CONTROL: case CLOCK_COUNT: case DAY:
                case KEY_CONTROL: case KEY_BYTE: case TYPE_CONTROL:
                case DISK_SECTOR: case DISK_ADDRESS: case DISK_CONTROL:
                case MAPEN: case 62:
                    return true;
                default:
                    return false;
            }
        }

        int valueOf(int k) {
            if (k < 0 || k > 63) {
                return 0;
            }
            if (k < 5) {
                return now.stackPointer(k);
            }
            if (k == 18) {
                return now.registers[STATUS] >>> 16 & 31;
            }
            return k == 62 ? 0x01000611 : now.specials[k];
        }

        boolean put(int k, int v) {
            if (k < 0 || k > 58) {
                return false;
            }
            return k < 24 ? putProcessor(k, v) : putDevice(k, v);
        }

        private boolean putProcessor(int k, int v) {
            switch (k) {
                case 0: case 1: case 2: case 3: case 4:
                    now.putStackPointer(k, v);
                    return true;
                case 8: case 9: case 10: case 11:
                    now.specials[k] = (k & 1) == 0 ? v : v & 0x3FFFFF;
                    now.forget(0, 16);
                    return true;
                case 12: case 13:
                    now.specials[k] = (k & 1) == 0 ? v : v & 0x3FFFFF;
                    now.forget(0, 32);
                    return true;
                case BLOCK_BASE:
                    now.specials[k] = v;
                    return true;
                case VECTOR_BASE:
                    now.specials[k] = v & -PAGE;
                    return true;
                case 18:
                    now.registers[STATUS] = now.registers[STATUS] & ~(31 << 16) | (v & 31) << 16;
                    return true;
                case AST_LEVEL:
                    if (v < 0 || v > 4) {
                        return false;
                    }
                    now.specials[k] = v;
                    return true;
                case 20:
                    if (v >= 1 && v <= 15) {
                        now.specials[SOFTWARE_BITS] |= 1 << v;
                    }
                    return true;
                case SOFTWARE_BITS:
                    now.specials[k] = v & 0xFFFE;
                    return true;
                default:
                    return false;
            }
        }

        private boolean putDevice(int k, int v) {
            switch (k) {
                case CLOCK_CONTROL:
                    putClock(v);
                    return true;
                case CLOCK_NEXT: case DAY: case DISK_SECTOR: case DISK_ADDRESS:
                    now.specials[k] = v;
                    return true;
                case KEY_CONTROL:
                    enable(k, v, KEY_REQUEST);
                    return true;
                case TYPE_CONTROL:
                    enable(k, v, TYPED_REQUEST);
                    return true;
                case 35:
                    typeByte(v);
                    return true;
                case DISK_CONTROL:
                    putDisk(v);
                    return true;
                case MAPEN:
                    now.specials[k] = v & 1;
                    now.forget(0, 32);
                    return true;
                case 57:
                    now.forget(0, 32);
                    return true;
                case 58:
                    forgetPage(v);
                    return true;
                default:
                    return false;
            }
        }

        private void forgetPage(int address) {
            int slot = Memory.slotOf(address);
            if (now.keptPages[slot] == Memory.tagOf(address)) {
                now.forget(slot, slot + 1);
            }
        }

        private void putClock(int v) {
            int lasting = now.specials[CLOCK_CONTROL] & (READY | LATE) & ~v;
            now.specials[CLOCK_CONTROL] = lasting | v & (RUN | ENABLED);
            if ((v & TRANSFER) != 0) {
                now.specials[CLOCK_COUNT] = now.specials[CLOCK_NEXT];
            }
            if ((v & SINGLE) != 0 && (v & RUN) == 0) {
                growClock();
            }
        }

        private void growClock() {
            if (now.specials[CLOCK_COUNT] != -1) {
                now.specials[CLOCK_COUNT]++;
                return;
            }
            now.specials[CLOCK_COUNT] = now.specials[CLOCK_NEXT];
            int control = now.specials[CLOCK_CONTROL];
            if ((control & READY) != 0) {
                control |= LATE;
            }
            now.specials[CLOCK_CONTROL] = control | READY;
            if ((control & ENABLED) != 0) {
                now.requests[CLOCK_REQUEST] = true;
            }
        }

        private void enable(int k, int v, int request) {
            int old = now.specials[k];
            now.specials[k] = old & ~ENABLED | v & ENABLED;
            if ((old & ENABLED) == 0 && (v & ENABLED) != 0 && (old & READY) != 0) {
                now.requests[request] = true;
            }
        }

        private void becomeReady(int k, int request) {
            now.specials[k] |= READY;
            if ((now.specials[k] & ENABLED) != 0) {
                now.requests[request] = true;
            }
        }

        private void typeByte(int v) {
            if ((now.specials[TYPE_CONTROL] & READY) == 0) {
                return;
            }
            now.typedBytes[now.counts[TYPED_ALL] & 63] = (byte) v;
            now.counts[TYPED_ALL]++;
            now.specials[TYPE_CONTROL] &= ~READY;
            now.waits[TYPE_WAIT] = 3;
        }

        boolean keyComes(int c) {
            if ((now.specials[KEY_CONTROL] & READY) != 0) {
                return false;
            }
            now.specials[KEY_BYTE] = c;
            becomeReady(KEY_CONTROL, KEY_REQUEST);
            return true;
        }

        void keyWasRead() {
            now.specials[KEY_CONTROL] &= ~READY;
        }

        private void putDisk(int v) {
            int old = now.specials[DISK_CONTROL];
            int control = old & ~ENABLED | v & ENABLED;
            int command = v & 3;
            if ((old & READY) != 0 && (command == 1 || command == 2)) {
                control &= ~(READY | FAILED);
                now.waits[DISK_WAIT] = 5;
                now.waits[DISK_COMMAND] = command;
            }
            now.specials[DISK_CONTROL] = control;
        }

        /** What the clock, the terminal and the disk do in a step. */
        void goOn() {
            if ((now.specials[CLOCK_CONTROL] & RUN) != 0) {
                growClock();
            }
            if (now.specials[DAY] != 0) {
                now.specials[DAY]++;
            }
            if (now.waits[TYPE_WAIT] > 0) {
                now.waits[TYPE_WAIT]--;
                if (now.waits[TYPE_WAIT] == 0) {
                    becomeReady(TYPE_CONTROL, TYPED_REQUEST);
                }
            }
            if (now.waits[DISK_WAIT] > 0) {
                now.waits[DISK_WAIT]--;
                if (now.waits[DISK_WAIT] == 0) {
                    moveSector();
                }
            }
        }

        private void moveSector() {
            int sector = now.specials[DISK_SECTOR];
            int address = now.specials[DISK_ADDRESS];
            boolean there = sector >= 0 && sector < now.disk.length / PAGE
                && address >= 0 && address <= now.memory.length - PAGE;
            if (!there) {
                now.specials[DISK_CONTROL] |= FAILED;
            } else if (now.waits[DISK_COMMAND] == 1) {
                System.arraycopy(now.disk, sector * PAGE, now.memory, address, PAGE);
            } else {
                System.arraycopy(now.memory, address, now.disk, sector * PAGE, PAGE);
            }
            becomeReady(DISK_CONTROL, DISK_REQUEST);
        }
    }

    /** The operands of the instruction at hand, and the results that it leaves. */
    private static final class Operands {
        private static final int MANY = 6;
        private static final int MOST_RESULTS = 24;
        private static final int TO_TRANSLATE = 0;
        private static final int TRANSLATED = 1;
        private static final int IN_REGISTER = 2;
        private static final int PUSHED = 3;

        private final State now;
        private final Memory memory;
        final boolean[] inRegister = new boolean[MANY];
        /** The register, or the address. */
        final int[] places = new int[MANY];
        private final int[] sizes = new int[MANY];
        /** What was read, with sign; of an address operand the address. */
        final long[] values = new long[MANY];
        /** Where an operand that is changed in place lies: its access, which is translated once. */
        private final int[][] spans = new int[MANY][3];
        private final boolean[] opened = new boolean[MANY];
        long fetched;
        int branch;
        int trap;
        private int address;
        private int many;
        private final int[] kinds = new int[MOST_RESULTS];
        private final int[] targets = new int[MOST_RESULTS];
        private final int[] widths = new int[MOST_RESULTS];
        private final long[] results = new long[MOST_RESULTS];
        private final int[][] resultSpans = new int[MOST_RESULTS][3];

        Operands(State now, Memory memory) {
            this.now = now;
            this.memory = memory;
        }

        void clear() {
            many = 0;
            trap = 0;
        }

        static long signed(long value, int size) {
            int shift = 64 - 8 * size;
            return value << shift >> shift;
        }

        static int sizeOf(char type) {
            switch (type) {
                case 'b':
                    return 1;
                case 'w':
                    return 2;
                case 'l': case 'f': case 'g':
                    return 4;
                default:
                    return 8;
            }
        }

        /** Reads bytes of the instruction, one by one. */
        boolean fetch(int size) {
            int[] r = now.registers;
            fetched = 0;
            for (int i = 0; i < size; i++) {
                if (!memory.translate(r[PC], false, now.mode())) {
                    return false;
                }
                int place = memory.at;
                if (!memory.inside(place)) {
                    return memory.raiseNumber(MACHINE_CHECK, place);
                }
                fetched |= (now.memory[place] & 255L) << 8 * i;
                r[PC]++;
            }
            return true;
        }

        /** Works out operand k wholly: access is r, m, w, a, v, or j for a branch's displacement. */
        boolean workOut(int k, char access, char type) {
            int size = sizeOf(type);
            if (access == 'j') {
                return jump(size);
            }
            if (!fetch(1)) {
                return false;
            }
            int specifier = (int) fetched;
            int index = -1;
            if (specifier >>> 4 == 4) {
                index = specifier & 15;
                if (!fetch(1)) {
                    return false;
                }
                specifier = (int) fetched;
            }
            if (unfit(specifier, access, size) || index >= 0 && unfitUnderIndex(specifier, index)) {
                return memory.raise(ADDRESSING_FAULT);
            }
            sizes[k] = size;
            opened[k] = false;
            inRegister[k] = specifier >>> 4 == 5;
            if (inRegister[k]) {
                places[k] = specifier & 15;
                values[k] = signed(inRegisters(specifier & 15, size), size);
                return refuseReserved(k, access, type);
            }
            if (specifier < 64) {
                values[k] = type >= 'd' && type <= 'h' ? 0x4000 | specifier << 4 : specifier;
                return true;
            }
            if (specifier == 0x8F) {
                boolean came = fetch(size);
                values[k] = signed(fetched, size);
                return came && refuseReserved(k, access, type);
            }
            if (!findAddress(specifier, size)) {
                return false;
            }
            places[k] = index < 0 ? address : address + now.registers[index] * size;
            values[k] = places[k];
            if (access != 'r' && access != 'm') {
                return true;
            }
            if (!memory.open(places[k], size, access == 'm', now.mode())) {
                return false;
            }
            values[k] = signed(memory.value(size), size);
            opened[k] = true;
            keepSpan(spans[k]);
            return refuseReserved(k, access, type);
        }

        private boolean jump(int size) {
            if (!fetch(size)) {
                return false;
            }
            branch = now.registers[PC] + (int) signed(fetched, size);
            return true;
        }

        private void keepSpan(int[] span) {
            span[0] = memory.first;
            span[1] = memory.near;
            span[2] = memory.second;
        }

        /** Floats that are read (f, d) are refused with the sign of a 0; MOV's (g, h) are not. */
        private boolean refuseReserved(int k, char access, char type) {
            boolean number = (type == 'f' || type == 'd') && (access == 'r' || access == 'm');
            if (number && (values[k] & 0xFF80) == 0x8000) {
                return memory.raise(RESERVED_OPERAND);
            }
            return true;
        }

        private static boolean unfit(int specifier, char access, int size) {
            int n = specifier & 15;
            switch (specifier >>> 4) {
                case 0: case 1: case 2: case 3:
                    return access != 'r';
                case 4:
                    return true;
                case 5:
                    return access == 'a' || n == PC || n > FP && size == 8;
                case 6: case 7:
                    return n == PC;
                case 8:
                    return n == PC && access != 'r';
                default:
                    return false;
            }
        }

        private static boolean unfitUnderIndex(int specifier, int index) {
            return index == PC || specifier < 0x60 || specifier == 0x8F;
        }

        private long inRegisters(int n, int size) {
            int[] r = now.registers;
            long low = r[n] & 0xFFFFFFFFL;
            return size == 8 && n < SP ? low | (long) r[n + 1] << 32 : low;
        }

        /** The address that a specifier from 60 to FF tells, with what it does to its register. */
        private boolean findAddress(int specifier, int size) {
            int[] r = now.registers;
            int n = specifier & 15;
            switch (specifier >>> 4) {
                case 6:
                    address = r[n];
                    return true;
                case 7:
                    r[n] -= size;
                    address = r[n];
                    return true;
                case 8:
                    address = r[n];
                    r[n] += size;
                    return true;
                case 9:
                    if (n == PC) {
                        boolean came = fetch(4);
                        address = (int) fetched;
                        return came;
                    }
                    if (!memory.open(r[n], 4, false, now.mode())) {
                        return false;
                    }
                    address = (int) memory.value(4);
                    r[n] += 4;
                    return true;
                default:
                    int width = 1 << (specifier >>> 5) - 5;
                    if (!fetch(width)) {
                        return false;
                    }
                    address = r[n] + (int) signed(fetched, width);
                    if ((specifier & 16) != 0) {
                        if (!memory.open(address, 4, false, now.mode())) {
                            return false;
                        }
                        address = (int) memory.value(4);
                    }
                    return true;
            }
        }

        int word(int k) {
            return (int) values[k] & 0xFFFF;
        }

        int byteOf(int k) {
            return (int) values[k] & 255;
        }

        /** Operand k becomes a value when the instruction is at its end. */
        void put(int k, long value) {
            plan(inRegister[k] ? IN_REGISTER : opened[k] ? TRANSLATED : TO_TRANSLATE, places[k], sizes[k], value);
            if (opened[k] && many > 0) {
                System.arraycopy(spans[k], 0, resultSpans[many - 1], 0, 3);
            }
        }

        /** Bytes at an address become a value when the instruction is at its end. */
        void putAt(int address, int size, long value) {
            plan(TO_TRANSLATE, address, size, value);
        }

        /** The access at hand, which was opened for writing, gets a value when the instruction is at its end. */
        void putOpened(int size, long value) {
            plan(TRANSLATED, 0, size, value);
            if (many > 0) {
                keepSpan(resultSpans[many - 1]);
            }
        }

        private void plan(int kind, int target, int width, long value) {
            if (many < MOST_RESULTS) {
                kinds[many] = kind;
                targets[many] = target;
                widths[many] = width;
                results[many] = value;
                many++;
            }
        }

        /** A push, which is an access of its own when the instruction is at its end: SP falls now. */
        void push(int value) {
            now.registers[SP] -= 4;
            plan(PUSHED, now.registers[SP], 4, value);
        }

        void overflow(boolean v) {
            if (v && now.has(BIT_IV)) {
                trap = 1;
            }
        }

        /** All results: translated, then written to memory, then to registers; a push is written ahead of the next. */
        boolean finish() {
            for (int i = 0; i < many; i++) {
                if (kinds[i] == TO_TRANSLATE || kinds[i] == PUSHED) {
                    if (!memory.open(targets[i], widths[i], true, now.mode())) {
                        return false;
                    }
                    keepSpan(resultSpans[i]);
                }
                if (kinds[i] == PUSHED) {
                    memory.putValue(0, widths[i], results[i]);
                }
            }
            for (int i = 0; i < many; i++) {
                if (kinds[i] == TO_TRANSLATE || kinds[i] == TRANSLATED) {
                    int[] span = resultSpans[i];
                    memory.first = span[0];
                    memory.near = span[1];
                    memory.second = span[2];
                    memory.putValue(0, widths[i], results[i]);
                }
            }
            for (int i = 0; i < many; i++) {
                if (kinds[i] == IN_REGISTER) {
                    putInRegisters(targets[i], widths[i], results[i]);
                }
            }
            return true;
        }

        private void putInRegisters(int n, int size, long value) {
            int[] r = now.registers;
            if (size == 1) {
                r[n] = r[n] & ~255 | (int) value & 255;
            } else if (size == 2) {
                r[n] = r[n] & ~0xFFFF | (int) value & 0xFFFF;
            } else {
                r[n] = (int) value;
            }
            if (size == 8 && n < SP) {
                r[n + 1] = (int) (value >>> 32);
            }
        }
    }

    /** Integers: sums, logic, shifts, moves, loops, and what pushes or tells an address. */
    private static final class Integers {
        private final State now;
        private final Memory memory;
        private final Operands operands;

        Integers(State now, Memory memory, Operands operands) {
            this.now = now;
            this.memory = memory;
            this.operands = operands;
        }

        void execute(int opcode) {
            int low = opcode & 31;
            if (opcode >= 0x80 && opcode < 0xE0 && low < 24) {
                int size = 1 << (opcode >>> 5 & 3);
                if (low < 14) {
                    arithmetic(low, size);
                } else if (low == 15) {
                    chooseCase(size);
                } else {
                    single(low, size);
                }
            } else if (opcode >= 0xF1 && opcode <= 0xF5 || opcode == 0x9D || opcode == 0x3D) {
                loop(opcode);
            } else if (opcode >= 0x78 && opcode <= 0x7B) {
                longOnes(opcode);
            } else {
                others(opcode);
            }
        }

        private void arithmetic(int low, int size) {
            long first = operands.values[0];
            long second = operands.values[1];
            int to = 1 + (low & 1);
            switch (low >>> 1) {
                case 0:
                    sum(second, first, 0, size, to);
                    break;
                case 1:
                    difference(second, first, 0, size, to);
                    break;
                case 2:
                    overflowing(second * first, size, to);
                    break;
                case 3:
                    quotient(second, first, size, to);
                    break;
                case 4:
                    plain(to, second | first);
                    break;
                case 5:
                    plain(to, second & ~first);
                    break;
                default:
                    plain(to, second ^ first);
            }
        }

        private void single(int low, int size) {
            long first = operands.values[0];
            switch (low) {
                case 14:
                    difference(0, first, 0, size, 1);
                    break;
                case 16:
                    plain(1, first);
                    break;
                case 17:
                    compare(first, operands.values[1]);
                    break;
                case 18:
                    plain(1, ~first);
                    break;
                case 19:
                    now.signFlags(first & operands.values[1]);
                    break;
                case 20:
                    plain(0, 0);
                    break;
                case 21:
                    compareWithNone(first);
                    break;
                case 22:
                    sum(first, 1, 0, size, 0);
                    break;
                default:
                    difference(first, 1, 0, size, 0);
            }
        }

        /** A result with N, Z, V 0; C stays. */
        private void plain(int to, long result) {
            operands.put(to, result);
            now.signFlags(result);
        }

        private void compareWithNone(long value) {
            now.flags(value < 0, value == 0, false, false);
        }

        private void compare(long first, long second) {
            now.flags(first < second, first == second, false, Long.compareUnsigned(first, second) < 0);
        }

        private void sum(long a, long b, long carry, int size, int to) {
            long mask = (1L << 8 * size) - 1;
            long whole = a + b + carry;
            boolean out = (a & mask) + (b & mask) + carry > mask;
            result(whole, Operands.signed(whole, size), out, to);
        }

        private void difference(long a, long b, long borrow, int size, int to) {
            long mask = (1L << 8 * size) - 1;
            long whole = a - b - borrow;
            boolean out = (a & mask) < (b & mask) + borrow;
            result(whole, Operands.signed(whole, size), out, to);
        }

        /** The low part of a whole number; C 0. */
        private void overflowing(long whole, int size, int to) {
            result(whole, Operands.signed(whole, size), false, to);
        }

        private void result(long whole, long result, boolean carry, int to) {
            boolean v = result != whole;
            operands.put(to, result);
            now.flags(result < 0, result == 0, v, carry);
            operands.overflow(v);
        }

        private void quotient(long number, long divisor, int size, int to) {
            if (divisor != 0) {
                long whole = number / divisor;
                result(whole, Operands.signed(whole, size), false, to);
                return;
            }
            operands.put(to, number);
            now.flags(number < 0, number == 0, true, false);
            operands.trap = 2;
        }

        private void chooseCase(int size) {
            long mask = (1L << 8 * size) - 1;
            long t = operands.values[0] - operands.values[1] & mask;
            long limit = operands.values[2] & mask;
            compare(Operands.signed(t, size), operands.values[2]);
            int table = now.registers[PC];
            if (t > limit) {
                now.registers[PC] = table + 2 * ((int) limit + 1);
            } else if (memory.open(table + 2 * (int) t, 2, false, now.mode())) {
                now.registers[PC] = table + (int) Operands.signed(memory.value(2), 2);
            }
        }

        /** ACB, AOB and SOB: the index is counted, and a branch taken while it is within. */
        private void loop(int opcode) {
            long[] v = operands.values;
            switch (opcode) {
                case 0x9D:
                    addCompare(1);
                    break;
                case 0x3D:
                    addCompare(2);
                    break;
                case 0xF1:
                    addCompare(4);
                    break;
                case 0xF2:
                    count(1, v[1] + 1);
                    branchIf((int) v[1] + 1 < v[0]);
                    break;
                case 0xF3:
                    count(1, v[1] + 1);
                    branchIf((int) v[1] + 1 <= v[0]);
                    break;
                case 0xF4:
                    count(0, v[0] - 1);
                    branchIf((int) v[0] - 1 >= 0);
                    break;
                default:
                    count(0, v[0] - 1);
                    branchIf((int) v[0] - 1 > 0);
            }
        }

        private void addCompare(int size) {
            long limit = operands.values[0];
            long addend = operands.values[1];
            long whole = operands.values[2] + addend;
            long index = Operands.signed(whole, size);
            result(whole, index, now.has(BIT_C), 2);
            branchIf(addend >= 0 ? index <= limit : index >= limit);
        }

        /** Puts an index; V overflow, C stays. */
        private void count(int to, long whole) {
            result(whole, (int) whole, now.has(BIT_C), to);
        }

        private void branchIf(boolean taken) {
            if (taken) {
                now.registers[PC] = operands.branch;
            }
        }

        private void longOnes(int opcode) {
            long[] v = operands.values;
            switch (opcode) {
                case 0x78:
                    shift((int) v[0], v[1], 4);
                    break;
                case 0x79:
                    shift((int) v[0], v[1], 8);
                    break;
                case 0x7A:
                    long product = v[0] * v[1] + v[2];
                    operands.put(3, product);
                    compareWithNone(product);
                    break;
                default:
                    divideLong(v[1], v[0]);
            }
        }

        private void shift(int count, long value, int size) {
            int bits = 8 * size;
            if (count <= 0) {
                long right = value >> Math.min(-count, 63);
                result(right, right, false, 2);
                return;
            }
            long left = count >= bits ? 0 : Operands.signed(value << count, size);
            boolean v = count >= bits ? value != 0 : left >> count != value;
            operands.put(2, left);
            now.flags(left < 0, left == 0, v, false);
            operands.overflow(v);
        }

        private void divideLong(long number, long divisor) {
            long quotient = divisor == 0 ? 0 : number / divisor;
            boolean v = divisor == 0 || quotient != (int) quotient;
            long result = v ? (int) number : quotient;
            operands.put(2, result);
            operands.put(3, v ? 0 : number - quotient * divisor);
            now.flags(result < 0, result == 0, v, false);
            operands.overflow(v);
            if (divisor == 0) {
                operands.trap = 2;
            }
        }

        private void others(int opcode) {
            long[] v = operands.values;
            long carry = now.has(BIT_C) ? 1 : 0;
            switch (opcode) {
                case 0x98: case 0x32:
                    overflowing(v[0], 4, 1);
                    break;
                case 0x99: case 0xF7:
                    overflowing(v[0], 2, 1);
                    break;
                case 0x33: case 0xF6:
                    overflowing(v[0], 1, 1);
                    break;
                case 0x9A: case 0x9B:
                    plain(1, v[0] & 255);
                    break;
                case 0x3C:
                    plain(1, v[0] & 0xFFFF);
                    break;
                case 0x9C:
                    plain(2, Integer.rotateLeft((int) v[1], (int) v[0] & 31));
                    break;
                case 0xD8:
                    sum(v[1], v[0], carry, 4, 1);
                    break;
                case 0xD9:
                    difference(v[1], v[0], carry, 4, 1);
                    break;
                case 0x58:
                    sum(v[1], v[0], 0, 2, 1);
                    break;
                case 0x7C:
                    plain(0, 0);
                    break;
                case 0x7D: case 0x9E: case 0x3E: case 0xDE: case 0x7E:
                    plain(1, v[0]);
                    break;
                case 0xDD: case 0x9F: case 0x3F: case 0xDF: case 0x7F:
                    operands.push((int) v[0]);
                    now.signFlags(v[0]);
                    break;
                case 0xDC:
                    operands.put(0, now.registers[STATUS]);
                    break;
                case 0x0A:
                    subscript();
                    break;
                default:
                    changeLowStatus(opcode == 0xB8);
            }
        }

        private void changeLowStatus(boolean on) {
            int bits = operands.word(0);
            if (bits > 255) {
                memory.raise(RESERVED_OPERAND);
            } else if (on) {
                now.registers[STATUS] |= bits;
            } else {
                now.registers[STATUS] &= ~bits;
            }
        }

        private void subscript() {
            long[] v = operands.values;
            int out = ((int) v[4] + (int) v[0]) * (int) v[3];
            operands.put(5, out);
            compareWithNone(out);
            if (v[0] < v[1] || v[0] > v[2]) {
                operands.trap = 7;
            }
        }
    }

    /** Fields of bits, and queues. */
    private static final class Fields {
        private final State now;
        private final Memory memory;
        private final Operands operands;
        private int size;
        private int bytes;
        /** All that lies in the bytes or registers of the field, and the field of it. */
        private long whole;
        private long field;

        Fields(State now, Memory memory, Operands operands) {
            this.now = now;
            this.memory = memory;
            this.operands = operands;
        }

        void execute(int opcode) {
            if (opcode < 0xE8) {
                branchOnBit(opcode);
                return;
            }
            int first = opcode == 0xF0 ? 1 : 0;
            if (!find(first, opcode == 0xF0)) {
                return;
            }
            int position = (int) operands.values[first];
            switch (opcode) {
                case 0xEA:
                    findFirst(position, field);
                    break;
                case 0xEB:
                    findFirst(position, ~field);
                    break;
                case 0xEC:
                    compare((int) extended(), (int) operands.values[3]);
                    break;
                case 0xED:
                    compare((int) field, (int) operands.values[3]);
                    break;
                case 0xEE:
                    extract((int) extended());
                    break;
                case 0xEF:
                    extract((int) field);
                    break;
                default:
                    insert(position);
            }
        }

        /** Reads the field that operands k (position), k + 1 (size) and k + 2 (base) tell. */
        private boolean find(int k, boolean write) {
            int position = (int) operands.values[k];
            size = operands.byteOf(k + 1);
            field = 0;
            if (size > 32) {
                return memory.raise(RESERVED_OPERAND);
            }
            if (size == 0) {
                return true;
            }
            int place = operands.places[k + 2];
            int shift = position & 7;
            if (operands.inRegister[k + 2]) {
                if (position < 0 || position > 31 || position + size > 32 && place >= SP) {
                    return memory.raise(RESERVED_OPERAND);
                }
                shift = position;
                whole = now.registers[place] & 0xFFFFFFFFL | (long) now.registers[place + 1] << 32;
            } else {
                bytes = shift + size + 7 >>> 3;
                if (!memory.open(place + (position >> 3), bytes, write, now.mode())) {
                    return false;
                }
                whole = memory.value(bytes);
            }
            field = whole >>> shift & mask();
            return true;
        }

        private long mask() {
            return (1L << size) - 1;
        }

        private long extended() {
            return size == 0 ? 0 : field << 64 - size >> 64 - size;
        }

        private void extract(int value) {
            operands.put(3, value);
            now.flags(value < 0, value == 0, false, false);
        }

        private void compare(int first, int second) {
            now.flags(first < second, first == second, false, Integer.compareUnsigned(first, second) < 0);
        }

        private void findFirst(int position, long bits) {
            int i = 0;
            while (i < size && (bits >>> i & 1) == 0) {
                i++;
            }
            operands.put(3, position + i);
            now.flags(false, i == size, false, false);
        }

        private void insert(int position) {
            if (size == 0) {
                return;
            }
            boolean inRegister = operands.inRegister[3];
            int shift = inRegister ? position : position & 7;
            long changed = whole & ~(mask() << shift) | (operands.values[0] & mask()) << shift;
            if (!inRegister) {
                operands.putOpened(bytes, changed);
                return;
            }
            int n = operands.places[3];
            now.registers[n] = (int) changed;
            if (position + size > 32) {
                now.registers[n + 1] = (int) (changed >>> 32);
            }
        }

        private void branchOnBit(int opcode) {
            int position = (int) operands.values[0];
            int place = operands.places[1];
            boolean inRegister = operands.inRegister[1];
            int shift = inRegister ? position : position & 7;
            int old;
            if (inRegister) {
                if (position < 0 || position > 31) {
                    memory.raise(RESERVED_OPERAND);
                    return;
                }
                old = now.registers[place];
            } else {
                if (!memory.open(place + (position >> 3), 1, opcode > 0xE1, now.mode())) {
                    return;
                }
                old = (int) memory.value(1);
            }
            boolean setting = opcode == 0xE2 || opcode == 0xE3 || opcode == 0xE6;
            int changed = setting ? old | 1 << shift : old & ~(1 << shift);
            if (opcode > 0xE1 && inRegister) {
                now.registers[place] = changed;
            } else if (opcode > 0xE1) {
                operands.putOpened(1, changed);
            }
            boolean wanted = (opcode & 1) == 0;
            boolean found = (old >>> shift & 1) != 0;
            if (found == wanted) {
                now.registers[PC] = operands.branch;
            }
        }

        void queue(int opcode) {
            switch (opcode) {
                case 0x0E:
                    insertAbsolute((int) operands.values[0], (int) operands.values[1]);
                    break;
                case 0x0F:
                    removeAbsolute((int) operands.values[0]);
                    break;
                case 0x5C: case 0x5D:
                    insertRelative((int) operands.values[0], (int) operands.values[1], opcode == 0x5C);
                    break;
                default:
                    removeRelative((int) operands.values[0], opcode == 0x5E);
            }
        }

        private void insertAbsolute(int entry, int ahead) {
            if (!memory.open(ahead, 4, false, now.mode())) {
                return;
            }
            int behind = (int) memory.value(4);
            operands.putAt(entry, 4, behind);
            operands.putAt(entry + 4, 4, ahead);
            operands.putAt(behind + 4, 4, entry);
            operands.putAt(ahead, 4, entry);
            compare(behind, ahead);
        }

        private void removeAbsolute(int entry) {
            if (!memory.open(entry, 4, false, now.mode())) {
                return;
            }
            int behind = (int) memory.value(4);
            if (!memory.open(entry + 4, 4, false, now.mode())) {
                return;
            }
            int ahead = (int) memory.value(4);
            boolean alone = behind == entry && ahead == entry;
            if (!alone) {
                operands.putAt(ahead, 4, behind);
                operands.putAt(behind + 4, 4, ahead);
            }
            operands.put(1, entry);
            now.flags(behind < ahead, behind == ahead, alone, Integer.compareUnsigned(behind, ahead) < 0);
        }

        private void insertRelative(int entry, int header, boolean atHead) {
            if (((entry | header) & 7) != 0) {
                memory.raise(RESERVED_OPERAND);
                return;
            }
            if (!memory.open(atHead ? header : header + 4, 4, false, now.mode())) {
                return;
            }
            int link = (int) memory.value(4);
            if ((link & 7) != 0) {
                memory.raise(RESERVED_OPERAND);
                return;
            }
            int ahead = atHead ? header : header + link;
            int behind = atHead ? header + link : header;
            operands.putAt(entry, 4, behind - entry);
            operands.putAt(entry + 4, 4, ahead - entry);
            operands.putAt(behind + 4, 4, entry - behind);
            operands.putAt(ahead, 4, entry - ahead);
            now.flags(false, link == 0, false, false);
        }

        private void removeRelative(int header, boolean atHead) {
            if ((header & 7) != 0) {
                memory.raise(RESERVED_OPERAND);
                return;
            }
            int half = atHead ? 0 : 4;
            if (!memory.open(header + half, 4, false, now.mode())) {
                return;
            }
            int link = (int) memory.value(4);
            if (link == 0) {
                now.flags(false, true, true, false);
                return;
            }
            int entry = header + link;
            if ((link & 7) != 0) {
                memory.raise(RESERVED_OPERAND);
                return;
            }
            if (!memory.open(entry + half, 4, false, now.mode())) {
                return;
            }
            link = (int) memory.value(4);
            if ((link & 7) != 0) {
                memory.raise(RESERVED_OPERAND);
                return;
            }
            int other = entry + link;
            int ahead = atHead ? header : other;
            int behind = atHead ? other : header;
            operands.putAt(ahead, 4, behind - ahead);
            operands.putAt(behind + 4, 4, ahead - behind);
            operands.put(1, entry);
            now.flags(false, other == header, false, false);
        }
    }

    /** Branches, calls, and what modes and processes need. */
    private static final class Flow {
        private static final int BLOCK_BYTES = 96;

        private final State now;
        private final Memory memory;
        private final Operands operands;
        private final Specials specials;

        Flow(State now, Memory memory, Operands operands, Specials specials) {
            this.now = now;
            this.memory = memory;
            this.operands = operands;
            this.specials = specials;
        }

        void branch(int opcode) {
            int[] r = now.registers;
            switch (opcode) {
                case 0x11: case 0x31:
                    r[PC] = operands.branch;
                    break;
                case 0x10: case 0x30:
                    operands.push(r[PC]);
                    r[PC] = operands.branch;
                    break;
                case 0x16:
                    operands.push(r[PC]);
                    r[PC] = (int) operands.values[0];
                    break;
                case 0x17:
                    r[PC] = (int) operands.values[0];
                    break;
                case 0xE8: case 0xE9:
                    if ((operands.values[0] & 1) == (opcode == 0xE8 ? 1 : 0)) {
                        r[PC] = operands.branch;
                    }
                    break;
                default:
                    boolean odd = (opcode & 1) != 0;
                    if (now.has(askedFlags(opcode)) == odd) {
                        r[PC] = operands.branch;
                    }
            }
        }

        private static int askedFlags(int opcode) {
            switch (opcode >>> 1) {
                case 0x12 >>> 1:
                    return BIT_Z;
                case 0x14 >>> 1:
                    return BIT_N | BIT_Z;
                case 0x18 >>> 1:
                    return BIT_N;
                case 0x1A >>> 1:
                    return BIT_C | BIT_Z;
                case 0x1C >>> 1:
                    return BIT_V;
                default:
                    return BIT_C;
            }
        }

        void execute(int opcode) {
            switch (opcode) {
                case 0x02:
                    comeBack();
                    break;
                case 0x03:
                    memory.raise(BREAK);
                    break;
                case 0x04:
                    leaveProcedure();
                    break;
                case 0x05:
                    leaveRoutine();
                    break;
                case 0x06:
                    loadProcess();
                    break;
                case 0x07:
                    saveProcess();
                    break;
                case 0x0C: case 0x0D:
                    probeBytes(opcode == 0x0D);
                    break;
                case 0xBA:
                    popRegisters();
                    break;
                case 0xBB:
                    pushRegisters();
                    break;
                case 0xDA:
                    putSpecial();
                    break;
                case 0xDB:
                    takeSpecial();
                    break;
                case 0xFA: case 0xFB:
                    enterProcedure(opcode == 0xFB);
                    break;
                default:
                    break;
            }
        }

        private void leaveRoutine() {
            int[] r = now.registers;
            if (memory.open(r[SP], 4, false, now.mode())) {
                r[PC] = (int) memory.value(4);
                r[SP] += 4;
            }
        }

        private void enterProcedure(boolean counted) {
            int[] r = now.registers;
            int list = (int) operands.values[0];
            if (counted) {
                r[SP] -= 4;
                if (!memory.open(r[SP], 4, true, now.mode())) {
                    return;
                }
                memory.putValue(0, 4, list);
                list = r[SP];
            }
            int procedure = (int) operands.values[1];
            if (!memory.open(procedure, 2, false, now.mode())) {
                return;
            }
            int mask = (int) memory.value(2);
            if ((mask & 0x3000) != 0) {
                memory.raise(RESERVED_OPERAND);
                return;
            }
            int low = r[SP] & 3;
            r[SP] &= ~3;
            for (int n = 11; n >= 0; n--) {
                if ((mask >>> n & 1) != 0) {
                    operands.push(r[n]);
                }
            }
            operands.push(r[PC]);
            operands.push(r[FP]);
            operands.push(r[AP]);
            operands.push(r[STATUS] & 0xF0 | (mask & 0xFFF) << 16 | (counted ? 1 << 29 : 0) | low << 30);
            operands.push(0);
            r[FP] = r[SP];
            r[AP] = list;
            r[PC] = procedure + 2;
            int traps = ((mask & 0x8000) != 0 ? BIT_DV : 0) | ((mask & 0x4000) != 0 ? BIT_IV : 0);
            r[STATUS] = r[STATUS] & ~0xEF | traps;
        }

        private void leaveProcedure() {
            int[] r = now.registers;
            int sp = r[FP] + 4;
            if (!memory.open(sp, 4, false, now.mode())) {
                return;
            }
            int frame = (int) memory.value(4);
            if ((frame & 0xFF00) != 0) {
                memory.raise(RESERVED_OPERAND);
                return;
            }
            for (int i = 0; i < 15; i++) {
                if (i < 3 || (frame >>> 13 + i & 1) != 0) {
                    sp += 4;
                    if (!memory.open(sp, 4, false, now.mode())) {
                        return;
                    }
                    r[i == 0 ? AP : i == 1 ? FP : i == 2 ? PC : i - 3] = (int) memory.value(4);
                }
            }
            sp += 4 + (frame >>> 30);
            if ((frame >>> 29 & 1) != 0) {
                if (!memory.open(sp, 4, false, now.mode())) {
                    return;
                }
                sp += 4 + 4 * memory.byteOf(0);
            }
            r[SP] = sp;
            r[STATUS] = r[STATUS] & ~255 | frame & 255;
        }

        private void pushRegisters() {
            int[] r = now.registers;
            int mask = operands.word(0);
            int before = r[SP];
            for (int n = SP; n >= 0; n--) {
                if ((mask >>> n & 1) != 0) {
                    operands.push(n == SP ? before : r[n]);
                }
            }
        }

        private void popRegisters() {
            int[] r = now.registers;
            int mask = operands.word(0);
            int sp = r[SP];
            for (int n = 0; n <= SP; n++) {
                if ((mask >>> n & 1) != 0) {
                    if (!memory.open(sp, 4, false, now.mode())) {
                        return;
                    }
                    r[n] = (int) memory.value(4);
                    sp += 4;
                }
            }
            if ((mask >>> SP & 1) == 0) {
                r[SP] = sp;
            }
        }

        private void putSpecial() {
            int value = (int) operands.values[0];
            if (specials.put((int) operands.values[1], value)) {
                now.signFlags(value);
            } else {
                memory.raise(RESERVED_OPERAND);
            }
        }

        private void takeSpecial() {
            int k = (int) operands.values[0];
            if (specials.readable(k)) {
                int value = specials.valueOf(k);
                operands.put(1, value);
                now.signFlags(value);
            } else {
                memory.raise(RESERVED_OPERAND);
            }
        }

        private void comeBack() {
            int[] r = now.registers;
            int sp = r[SP];
            if (!memory.open(sp, 4, false, now.mode())) {
                return;
            }
            int pc = (int) memory.value(4);
            if (!memory.open(sp + 4, 4, false, now.mode())) {
                return;
            }
            int status = (int) memory.value(4);
            if (unfitStatus(status)) {
                memory.raise(RESERVED_OPERAND);
                return;
            }
            r[SP] = sp + 8;
            now.changeStatus(status | r[STATUS] & BIT_TP);
            r[PC] = pc;
            if (now.mode() >= now.specials[AST_LEVEL]) {
                now.specials[SOFTWARE_BITS] |= 4;
            }
        }

        private boolean unfitStatus(int status) {
            int mode = status >>> 24 & 3;
            int level = status >>> 16 & 31;
            boolean onInterrupts = (status & BIT_IS) != 0;
            if ((status & ~STATUS_BITS) != 0 || mode < now.mode() || (status >>> 22 & 3) < mode) {
                return true;
            }
            if (onInterrupts && (mode != 0 || !now.has(BIT_IS))) {
                return true;
            }
            return level != 0 && mode != 0 || level > (now.registers[STATUS] >>> 16 & 31);
        }

        /** Z tells whether a byte may not be reached: whether its page is valid does not matter. */
        private void probeBytes(boolean write) {
            int mode = Math.max((int) operands.values[0] & 3, now.registers[STATUS] >>> 22 & 3);
            int base = (int) operands.values[2];
            int last = base + Math.max(operands.word(1) - 1, 0);
            boolean may = true;
            for (int i = 0; i < 2 && may; i++) {
                if (!memory.probe(i == 0 ? base : last, write, mode)) {
                    boolean onlyMissing = memory.trouble == MISSING && (memory.two & 3) == 0;
                    may = onlyMissing;
                    if (!onlyMissing && memory.trouble != ACCESS) {
                        return;
                    }
                    memory.clear();
                }
            }
            now.flags(false, !may, false, now.has(BIT_C));
        }

        private void saveProcess() {
            int[] r = now.registers;
            int block = now.specials[BLOCK_BASE];
            if (!memory.allInside(block, BLOCK_BYTES) || !memory.open(r[SP], 4, false, 0)) {
                return;
            }
            int pc = (int) memory.value(4);
            if (!memory.open(r[SP] + 4, 4, false, 0)) {
                return;
            }
            int status = (int) memory.value(4);
            r[SP] += 8;
            for (int k = 0; k < 4; k++) {
                memory.putLongAt(block + 4 * k, now.stackPointer(k));
            }
            for (int n = 0; n < SP; n++) {
                memory.putLongAt(block + 16 + 4 * n, r[n]);
            }
            memory.putLongAt(block + 72, pc);
            memory.putLongAt(block + 76, status);
            if (!now.has(BIT_IS)) {
                int level = Math.max(r[STATUS] >>> 16 & 31, 1);
                now.changeStatus(r[STATUS] & ~(31 << 16) | level << 16 | BIT_IS);
            }
        }

        private void loadProcess() {
            int[] r = now.registers;
            int block = now.specials[BLOCK_BASE];
            if (!memory.allInside(block, BLOCK_BYTES)) {
                return;
            }
            for (int k = 0; k < 4; k++) {
                now.putStackPointer(k, memory.longAt(block + 4 * k));
            }
            for (int n = 0; n < SP; n++) {
                r[n] = memory.longAt(block + 16 + 4 * n);
            }
            int length = memory.longAt(block + 84);
            now.specials[8] = memory.longAt(block + 80);
            now.specials[9] = length & 0x3FFFFF;
            now.specials[AST_LEVEL] = length >>> 24 & 7;
            now.specials[10] = memory.longAt(block + 88);
            now.specials[11] = memory.longAt(block + 92) & 0x3FFFFF;
            now.forget(0, 16);
            now.changeStatus(r[STATUS] & ~BIT_IS);
            operands.push(memory.longAt(block + 76));
            operands.push(memory.longAt(block + 72));
        }
    }

    /** Strings: instructions that go on by rounds, with all that they need in R0 .. R5. */
    private static final class Strings {
        private static final int MOST_ROUNDS = 100;
        private static final int GOES_ON = 0;
        private static final int AT_END = 1;
        private static final int FAILED = 2;

        private final State now;
        private final Memory memory;
        private final Operands operands;
        /** Whether rounds have begun: a fault then keeps the registers as they are. */
        boolean begun;
        boolean ended;
        private boolean escaped;
        private int leftByte;
        private int rightByte;

        Strings(State now, Memory memory, Operands operands) {
            this.now = now;
            this.memory = memory;
            this.operands = operands;
        }

        void clear() {
            begun = false;
            ended = false;
        }

        /** The rounds of one step, for an instruction at start; ahead of them, if it is not going already, its begin. */
        void perform(int opcode, int start, boolean going) {
            int[] r = now.registers;
            if (!going) {
                begin(opcode, r[PC] - start);
            }
            r[STATUS] &= ~BIT_FPD;
            begun = true;
            escaped = false;
            int went = GOES_ON;
            for (int i = 0; i < MOST_ROUNDS && went == GOES_ON; i++) {
                switch (opcode) {
                    case 0x28: case 0x2C: case 0x2E: case 0x2F:
                        went = moveRound(opcode);
                        break;
                    case 0x29: case 0x2D:
                        went = compareRound();
                        break;
                    case 0x39:
                        went = matchRound();
                        break;
                    case 0x0B:
                        went = crcRound();
                        break;
                    default:
                        went = searchRound(opcode);
                }
            }
            if (went == AT_END) {
                ended = true;
                r[PC] = start + (r[2] >>> 16);
                r[2] &= 0xFFFF;
                end(opcode);
            } else if (went == GOES_ON) {
                r[PC] = start;
                r[STATUS] |= BIT_FPD;
            }
        }

        private void begin(int opcode, int length) {
            switch (opcode) {
                case 0x28:
                    fill(0, 1, 0, 2, length);
                    now.registers[4] = 4 << 8;
                    break;
                case 0x29:
                    fill(0, 1, 0, 2, length);
                    now.registers[4] = 0;
                    break;
                case 0x2C:
                    fill(0, 1, 3, 4, length);
                    now.registers[4] = operands.byteOf(2) | comparedCounts(3) << 8;
                    break;
                case 0x2D:
                    fill(0, 1, 3, 4, length);
                    now.registers[4] = operands.byteOf(2);
                    break;
                case 0x2E: case 0x2F:
                    fill(0, 1, 4, 5, length);
                    now.registers[4] = operands.byteOf(2) | comparedCounts(4) << 8;
                    now.registers[5] = (int) operands.values[3];
                    break;
                case 0x2A: case 0x2B:
                    fill(0, 1, 3, 2, length);
                    now.registers[2] = operands.byteOf(3) | length << 16;
                    break;
                case 0x39:
                    fill(0, 1, 2, 3, length);
                    now.registers[4] = 0;
                    break;
                case 0x0B:
                    fill(1, 0, 2, 3, length);
                    now.registers[0] = (int) operands.values[1];
                    break;
                default:
                    now.registers[0] = operands.word(1);
                    now.registers[1] = (int) operands.values[2];
                    now.registers[2] = operands.byteOf(0) | length << 16;
            }
        }

        /** R0 .. R3 from the operands of these numbers: a count, an address, a count, an address. */
        private void fill(int count, int from, int secondCount, int to, int length) {
            int[] r = now.registers;
            r[0] = operands.word(count);
            r[1] = (int) operands.values[from];
            r[2] = operands.word(secondCount) | length << 16;
            r[3] = (int) operands.values[to];
        }

        /** The flags of the first count against another operand's, as R4 holds them. */
        private int comparedCounts(int k) {
            long first = operands.values[0];
            long second = operands.values[k];
            int less = first < second ? BIT_N : 0;
            int below = operands.word(0) < operands.word(k) ? BIT_C : 0;
            return less | below | (first == second ? BIT_Z : 0);
        }

        private static int countOf(int register) {
            return register & 0xFFFF;
        }

        private static int oneLess(int register) {
            return register & ~0xFFFF | register - 1 & 0xFFFF;
        }

        private int moveRound(int opcode) {
            int[] r = now.registers;
            boolean some = countOf(r[0]) != 0;
            if (countOf(r[2]) == 0 || !some && opcode == 0x2F) {
                return AT_END;
            }
            int value = r[4] & 255;
            if (some) {
                value = memory.peek(r[1]);
                if (value >= 0 && opcode >= 0x2E) {
                    value = memory.peek(r[5] + value);
                }
                if (value < 0) {
                    return FAILED;
                }
                if (opcode == 0x2F && value == (r[4] & 255)) {
                    escaped = true;
                    return AT_END;
                }
            }
            if (!memory.open(r[3], 1, true, now.mode())) {
                return FAILED;
            }
            memory.putByte(0, value);
            if (some) {
                r[0] = oneLess(r[0]);
                r[1]++;
            }
            r[2] = oneLess(r[2]);
            r[3]++;
            return GOES_ON;
        }

        private int compareRound() {
            int[] r = now.registers;
            boolean left = countOf(r[0]) != 0;
            boolean right = countOf(r[2]) != 0;
            leftByte = r[4] & 255;
            rightByte = leftByte;
            if (!left && !right) {
                return AT_END;
            }
            if (left) {
                leftByte = memory.peek(r[1]);
                if (leftByte < 0) {
                    return FAILED;
                }
            }
            if (right) {
                rightByte = memory.peek(r[3]);
                if (rightByte < 0) {
                    return FAILED;
                }
            }
            if (leftByte != rightByte) {
                return AT_END;
            }
            if (left) {
                r[0] = oneLess(r[0]);
                r[1]++;
            }
            if (right) {
                r[2] = oneLess(r[2]);
                r[3]++;
            }
            return GOES_ON;
        }

        /** LOCC, SKPC, SCANC, SPANC. */
        private int searchRound(int opcode) {
            int[] r = now.registers;
            if (countOf(r[0]) == 0) {
                return AT_END;
            }
            boolean byTable = opcode == 0x2A || opcode == 0x2B;
            int value = memory.peek(r[1]);
            if (value >= 0 && byTable) {
                value = memory.peek(r[3] + value);
            }
            if (value < 0) {
                return FAILED;
            }
            boolean hit = byTable ? (value & r[2] & 255) != 0 : value == (r[2] & 255);
            boolean wanted = opcode == 0x2A || opcode == 0x3A;
            if (hit == wanted) {
                return AT_END;
            }
            r[0] = oneLess(r[0]);
            r[1]++;
            return GOES_ON;
        }

        private int matchRound() {
            int[] r = now.registers;
            if (r[4] == countOf(r[0]) || countOf(r[2]) < countOf(r[0])) {
                return AT_END;
            }
            int left = memory.peek(r[1] + r[4]);
            int right = left < 0 ? left : memory.peek(r[3] + r[4]);
            if (right < 0) {
                return FAILED;
            }
            if (left == right) {
                r[4]++;
            } else {
                r[3]++;
                r[2] = oneLess(r[2]);
                r[4] = 0;
            }
            return GOES_ON;
        }

        private int crcRound() {
            int[] r = now.registers;
            if (countOf(r[2]) == 0) {
                return AT_END;
            }
            int value = memory.peek(r[3]);
            if (value < 0) {
                return FAILED;
            }
            int crc = r[0] ^ value;
            for (int i = 0; i < 2; i++) {
                if (!memory.open(r[1] + 4 * (crc & 15), 4, false, now.mode())) {
                    return FAILED;
                }
                crc = crc >>> 4 ^ (int) memory.value(4);
            }
            r[0] = crc;
            r[2] = oneLess(r[2]);
            r[3]++;
            return GOES_ON;
        }

        private void end(int opcode) {
            int[] r = now.registers;
            switch (opcode) {
                case 0x28: case 0x2C: case 0x2E: case 0x2F:
                    int held = r[4] >>> 8;
                    now.flags((held & BIT_N) != 0, (held & BIT_Z) != 0, escaped, (held & BIT_C) != 0);
                    r[4] = 0;
                    r[5] = 0;
                    break;
                case 0x29: case 0x2D:
                    now.flags((byte) leftByte < (byte) rightByte, leftByte == rightByte, false, leftByte < rightByte);
                    r[4] = 0;
                    r[5] = 0;
                    break;
                case 0x39:
                    endMatch();
                    break;
                case 0x0B:
                    now.flags(r[0] < 0, r[0] == 0, false, false);
                    r[1] = 0;
                    break;
                default:
                    now.flags(false, countOf(r[0]) == 0, false, false);
                    r[2] = 0;
                    if (opcode >= 0x3A) {
                        r[3] = 0;
                    }
            }
        }

        private void endMatch() {
            int[] r = now.registers;
            int object = countOf(r[0]);
            boolean found = r[4] == object;
            int passed = found ? object : countOf(r[2]);
            r[3] += passed;
            r[2] = r[2] - passed & 0xFFFF;
            r[4] = 0;
            r[5] = 0;
            now.flags(false, found, false, false);
        }
    }

    /** Decimals: rows of digits, the lowest first, with the sign in the last cell. */
    private static final class Decimals {
        private static final int DIGITS = 64;
        private static final int SIGN = 64;
        private static final int MOST_CHARACTERS = 200;
        private static final int MOST_PATTERN = 200;
        private static final int BLANK = 32;
        private static final int PLUS = 43;
        private static final int MINUS = 45;
        private static final int ZERO = 48;

        private final State now;
        private final Memory memory;
        private final Operands operands;
        private final int[] first = new int[DIGITS + 1];
        private final int[] second = new int[DIGITS + 1];
        private final int[] result = new int[DIGITS + 1];
        private final int[] characters = new int[MOST_CHARACTERS];
        /** Whether digits went out above all that the result's row can hold. */
        private boolean lost;
        /** The last byte of the decimal that was read, as it is. */
        private int lastByte;
        /** So many characters go to a target. */
        private int written;
        private int target;
        private int fill;
        private int signCharacter;
        private boolean significant;
        private int digitsLeft;

        Decimals(State now, Memory memory, Operands operands) {
            this.now = now;
            this.memory = memory;
            this.operands = operands;
        }

        /** ADDP, SUBP, MULP, DIVP. */
        void arithmetic(int opcode) {
            boolean six = (opcode & 1) != 0;
            written = 0;
            if (!decimal(0, 1, first) || !decimal(2, 3, second) || six && longCount(4)) {
                return;
            }
            addresses(1, 3, six ? 5 : -1);
            switch (opcode) {
                case 0x20: case 0x21:
                    add(second, first);
                    break;
                case 0x22: case 0x23:
                    first[SIGN] = 1 - first[SIGN];
                    add(second, first);
                    break;
                case 0x25:
                    multiply();
                    break;
                default:
                    if (isZero(first)) {
                        now.registers[STATUS] |= BIT_V;
                        operands.trap = 4;
                        return;
                    }
                    divide();
            }
            formDecimal(six ? 4 : 2, six ? 5 : 3);
            putCharacters();
        }

        /** MOVP, CMPP, CVTLP, CVTPL, ASHP. */
        void others(int opcode) {
            written = 0;
            switch (opcode) {
                case 0x34:
                    if (decimal(0, 1, first)) {
                        addresses(1, 2, -1);
                        copy(first, 0);
                        formDecimal(0, 2);
                    }
                    break;
                case 0x35:
                    if (decimal(0, 1, first) && decimal(0, 2, second)) {
                        addresses(1, 2, -1);
                        compareBoth();
                    }
                    break;
                case 0x37:
                    if (decimal(0, 1, first) && decimal(2, 3, second)) {
                        addresses(1, 3, -1);
                        compareBoth();
                    }
                    break;
                case 0x36:
                    if (decimal(0, 1, first)) {
                        addresses(1, -1, -1);
                        toLong();
                    }
                    break;
                case 0xF9:
                    if (!longCount(1)) {
                        addresses(2, -1, -1);
                        fromLong(operands.values[0]);
                        formDecimal(1, 2);
                    }
                    break;
                default:
                    if (decimal(1, 2, first) && fitRound() && !longCount(4)) {
                        addresses(2, 5, -1);
                        shift((int) operands.values[0], operands.byteOf(3));
                        formDecimal(4, 5);
                    }
            }
            putCharacters();
        }

        /** CVTPS, CVTSP, CVTPT, CVTTP. */
        void conversion(int opcode) {
            written = 0;
            switch (opcode) {
                case 0x08:
                    if (decimal(0, 1, first) && !longCount(2)) {
                        addresses(1, 3, -1);
                        copy(first, 0);
                        formSeparate();
                    }
                    break;
                case 0x09:
                    if (!longCount(0) && separate() && !longCount(2)) {
                        addresses(1, 3, -1);
                        formDecimal(2, 3);
                    }
                    break;
                case 0x24:
                    if (decimal(0, 1, first) && !longCount(3)) {
                        addresses(1, 4, -1);
                        copy(first, 0);
                        formTrailing();
                    }
                    break;
                default:
                    if (!longCount(0) && trailing() && !longCount(3)) {
                        addresses(1, 4, -1);
                        formDecimal(3, 4);
                    }
            }
            putCharacters();
        }

        private boolean longCount(int k) {
            if (operands.word(k) > 31) {
                memory.raise(RESERVED_OPERAND);
                return true;
            }
            return false;
        }

        private boolean fitRound() {
            return operands.byteOf(3) <= 9 || memory.raise(RESERVED_OPERAND);
        }

        private static void clear(int[] row) {
            for (int i = 0; i <= DIGITS; i++) {
                row[i] = 0;
            }
        }

        private static boolean isZero(int[] row) {
            for (int i = 0; i < DIGITS; i++) {
                if (row[i] != 0) {
                    return false;
                }
            }
            return true;
        }

        /** Reads the decimal of operands count and string into a row. */
        private boolean decimal(int count, int string, int[] row) {
            if (longCount(count)) {
                return false;
            }
            int many = operands.word(count);
            int bytes = many / 2 + 1;
            if (!memory.open((int) operands.values[string], bytes, false, now.mode())) {
                return false;
            }
            clear(row);
            boolean fits = true;
            for (int i = 0; i < many; i++) {
                int pair = memory.byteOf(bytes - 1 - (i + 1 >>> 1));
                row[i] = (i & 1) == 0 ? pair >>> 4 : pair & 15;
                fits = fits && row[i] <= 9;
            }
            lastByte = memory.byteOf(bytes - 1);
            int sign = lastByte & 15;
            if (!fits || sign < 10) {
                return memory.raise(RESERVED_OPERAND);
            }
            row[SIGN] = (sign == 11 || sign == 13) && !isZero(row) ? 1 : 0;
            return true;
        }

        /** R0 .. R5 as they are behind a decimal instruction, with the addresses of the strings that are told. */
        private void addresses(int one, int two, int three) {
            int[] r = now.registers;
            r[0] = 0;
            r[1] = (int) operands.values[one];
            r[2] = 0;
            r[3] = two < 0 ? 0 : (int) operands.values[two];
            r[4] = 0;
            r[5] = three < 0 ? 0 : (int) operands.values[three];
        }

        /** The result becomes a row times 10 ^ by; what goes out above the row is lost. */
        private void copy(int[] row, int by) {
            clear(result);
            lost = false;
            for (int i = 0; i < DIGITS; i++) {
                int to = i + by;
                if (to >= 0 && to < DIGITS) {
                    result[to] = row[i];
                } else if (to >= DIGITS && row[i] != 0) {
                    lost = true;
                }
            }
            result[SIGN] = row[SIGN];
        }

        private static int compareSizes(int[] a, int[] b) {
            for (int i = DIGITS - 1; i >= 0; i--) {
                if (a[i] != b[i]) {
                    return a[i] < b[i] ? -1 : 1;
                }
            }
            return 0;
        }

        private void add(int[] a, int[] b) {
            boolean minus = a[SIGN] != b[SIGN];
            boolean swapped = minus && compareSizes(a, b) < 0;
            int[] larger = swapped ? b : a;
            int[] smaller = swapped ? a : b;
            int carry = 0;
            lost = false;
            for (int i = 0; i < DIGITS; i++) {
                int digit = larger[i] + carry + (minus ? -smaller[i] : smaller[i]);
                carry = Math.floorDiv(digit, 10);
                result[i] = digit - 10 * carry;
            }
            result[SIGN] = larger[SIGN];
        }

        private void multiply() {
            clear(result);
            lost = false;
            for (int i = 0; i < 32; i++) {
                int carry = 0;
                for (int k = 0; k < 32 && second[i] != 0; k++) {
                    int digit = result[i + k] + second[i] * first[k] + carry;
                    carry = digit / 10;
                    result[i + k] = digit - 10 * carry;
                }
            }
            result[SIGN] = first[SIGN] ^ second[SIGN];
        }

        /** The second by the first: the rest stays in the second's row. */
        private void divide() {
            clear(result);
            lost = false;
            int top = 31;
            while (top > 0 && first[top] == 0) {
                top--;
            }
            for (int by = 31 - top; by >= 0; by--) {
                for (int times = 0; times < 9 && holds(by, top); times++) {
                    takeAway(by, top);
                    result[by]++;
                }
            }
            result[SIGN] = first[SIGN] ^ second[SIGN];
        }

        /** Whether the second row is not below the first one, whose highest digit is told, times 10 ^ by. */
        private boolean holds(int by, int top) {
            if (second[by + top + 1] != 0) {
                return true;
            }
            for (int i = top; i >= 0; i--) {
                if (second[i + by] != first[i]) {
                    return second[i + by] > first[i];
                }
            }
            return true;
        }

        private void takeAway(int by, int top) {
            int borrow = 0;
            for (int i = 0; i <= top + 1; i++) {
                int digit = second[i + by] - first[i] - borrow;
                borrow = digit < 0 ? 1 : 0;
                second[i + by] = digit + 10 * borrow;
            }
        }

        private void shift(int by, int round) {
            copy(first, by);
            int out = by < 0 && -by <= DIGITS ? first[-by - 1] : 0;
            int carry = by < 0 && out + round > 9 ? 1 : 0;
            for (int i = 0; i < DIGITS && carry != 0; i++) {
                result[i] += carry;
                carry = result[i] / 10;
                result[i] -= 10 * carry;
            }
        }

        private void compareBoth() {
            int sizes = compareSizes(first, second);
            boolean less = first[SIGN] != second[SIGN] ? first[SIGN] != 0 : first[SIGN] != 0 ? sizes > 0 : sizes < 0;
            boolean like = first[SIGN] == second[SIGN] && sizes == 0;
            now.flags(less, like, false, false);
        }

        private void fromLong(long value) {
            clear(result);
            lost = false;
            long rest = Math.abs(value);
            for (int i = 0; i < 12; i++) {
                result[i] = (int) (rest % 10);
                rest /= 10;
            }
            result[SIGN] = value < 0 ? 1 : 0;
        }

        private void toLong() {
            long bound = 1L << 40;
            long size = 0;
            int low = 0;
            for (int i = 31; i >= 0; i--) {
                size = Math.min(size * 10 + first[i], bound);
                low = low * 10 + first[i];
            }
            boolean below = first[SIGN] != 0;
            int value = below ? -low : low;
            boolean v = size == bound || (below ? -size : size) != value;
            operands.put(2, value);
            now.flags(value < 0, value == 0, v, false);
            operands.overflow(v);
        }

        /** Leaves so many low digits of the result, with its flags. */
        private void trim(int many) {
            boolean v = lost;
            for (int i = many; i < DIGITS; i++) {
                v = v || result[i] != 0;
                result[i] = 0;
            }
            boolean zero = isZero(result);
            if (zero) {
                result[SIGN] = 0;
            }
            now.flags(result[SIGN] != 0, zero, v, false);
            if (v && now.has(BIT_DV)) {
                operands.trap = 6;
            }
        }

        private void formDecimal(int count, int string) {
            int many = operands.word(count);
            trim(many);
            int bytes = many / 2 + 1;
            for (int i = 0; i < bytes; i++) {
                int low = i == 0 ? 12 + result[SIGN] : result[2 * i - 1];
                characters[bytes - 1 - i] = low | result[2 * i] << 4;
            }
            target = (int) operands.values[string];
            written = bytes;
        }

        /** Writes the characters that were formed, if nothing failed on the way to them. */
        private void putCharacters() {
            if (memory.trouble != 0 || written < 1 || !memory.open(target, written, true, now.mode())) {
                return;
            }
            for (int i = 0; i < written; i++) {
                memory.putByte(i, characters[i]);
            }
        }

        private void formSeparate() {
            int many = operands.word(2);
            trim(many);
            characters[0] = result[SIGN] != 0 ? MINUS : PLUS;
            for (int i = 0; i < many; i++) {
                characters[many - i] = ZERO + result[i];
            }
            target = (int) operands.values[3];
            written = many + 1;
        }

        private boolean separate() {
            int many = operands.word(0);
            if (!memory.open((int) operands.values[1], many + 1, false, now.mode())) {
                return false;
            }
            int sign = memory.byteOf(0);
            if (sign != PLUS && sign != MINUS && sign != BLANK || !digitCharacters(many, 1, 0)) {
                return memory.raise(RESERVED_OPERAND);
            }
            result[SIGN] = sign == MINUS ? 1 : 0;
            return true;
        }

        /** Takes digits of the access at hand, from one of its bytes on, as the result's from a low one on. */
        private boolean digitCharacters(int many, int from, int low) {
            clear(result);
            lost = false;
            for (int i = 0; i < many; i++) {
                int digit = memory.byteOf(from + many - 1 - i) - ZERO;
                if (digit < 0 || digit > 9) {
                    return false;
                }
                result[low + i] = digit;
            }
            return true;
        }

        private void formTrailing() {
            int many = operands.word(3);
            if (many == 0) {
                trim(0);
                return;
            }
            int last = memory.peek((int) operands.values[2] + lastByte);
            if (last < 0) {
                return;
            }
            trim(many);
            for (int i = 1; i < many; i++) {
                characters[many - 1 - i] = ZERO + result[i];
            }
            characters[many - 1] = last;
            target = (int) operands.values[4];
            written = many;
        }

        private boolean trailing() {
            int many = operands.word(0);
            int address = (int) operands.values[1];
            clear(result);
            lost = false;
            if (many == 0) {
                return true;
            }
            if (!memory.open(address, many, false, now.mode())) {
                return false;
            }
            int last = memory.peek((int) operands.values[2] + memory.byteOf(many - 1));
            if (last < 0) {
                return false;
            }
            if (!digitCharacters(many - 1, 0, 1) || last >>> 4 > 9 || (last & 15) < 10) {
                return memory.raise(RESERVED_OPERAND);
            }
            result[0] = last >>> 4;
            result[SIGN] = (last & 15) == 11 || (last & 15) == 13 ? 1 : 0;
            return true;
        }

        /** EDITPC. */
        void edit() {
            if (!decimal(0, 1, first)) {
                return;
            }
            written = 0;
            fill = BLANK;
            signCharacter = first[SIGN] != 0 ? MINUS : BLANK;
            significant = false;
            digitsLeft = operands.word(0);
            int at = (int) operands.values[2];
            for (int i = 1; i <= MOST_PATTERN; i++) {
                int what = memory.peek(at);
                if (what <= 0) {
                    if (what == 0) {
                        endEdit();
                        putCharacters();
                    }
                    return;
                }
                at++;
                int next = 0;
                if (what >= 4 && what <= 8 && i < MOST_PATTERN) {
                    next = memory.peek(at);
                    if (next < 0) {
                        return;
                    }
                    at++;
                }
                if (i == MOST_PATTERN || !follow(what, next)) {
                    memory.raise(RESERVED_OPERAND);
                    return;
                }
            }
        }

        /** Does what a byte of the pattern tells; false if it can't be done. */
        private boolean follow(int what, int next) {
            boolean below = first[SIGN] != 0;
            switch (what) {
                case 1: case 2:
                    significant = what == 2;
                    return true;
                case 3:
                    return append(signCharacter);
                case 4:
                    fill = next;
                    return true;
                case 5: case 6:
                    if (below == (what == 6)) {
                        signCharacter = next;
                    }
                    return true;
                case 7:
                    return append(significant ? next : fill);
                case 8:
                    return blankZero(next);
                default:
                    return what >= 0x80 && what <= 0xAF && followMany(what >>> 4, what & 15);
            }
        }

        private boolean blankZero(int many) {
            if (many > written) {
                return false;
            }
            for (int i = written - many; i < written && isZero(first); i++) {
                characters[i] = fill;
            }
            return true;
        }

        private boolean followMany(int kind, int many) {
            boolean done = many > 0;
            for (int i = 0; i < many && done; i++) {
                done = kind == 8 ? append(fill) : nextDigit(kind == 10);
            }
            return done;
        }

        private boolean nextDigit(boolean floating) {
            if (digitsLeft < 1) {
                return false;
            }
            digitsLeft--;
            int digit = first[digitsLeft];
            if (digit == 0 && !significant) {
                return append(fill);
            }
            boolean done = significant || !floating || append(signCharacter);
            significant = true;
            return done && append(ZERO + digit);
        }

        private boolean append(int character) {
            if (written >= MOST_CHARACTERS) {
                return false;
            }
            characters[written] = character;
            written++;
            return true;
        }

        private void endEdit() {
            if (digitsLeft != 0) {
                memory.raise(RESERVED_OPERAND);
                return;
            }
            target = (int) operands.values[3];
            addresses(1, 2, -1);
            now.registers[5] = target + written;
            now.flags(first[SIGN] != 0, isZero(first), false, significant);
        }
    }

    /** Floats: a sign, an exponent and the 56 bits of a fraction, the highest of them 1 (none are 1 of 0). */
    private static final class Floats {
        private static final int TOP = 61;
        private static final int FLOAT_OVERFLOW = 8;
        private static final int DIVISION_BY_ZERO = 9;
        private static final int FLOAT_UNDERFLOW = 10;

        private final State now;
        private final Memory memory;
        private final Operands operands;
        private final boolean[] below = new boolean[3];
        private final int[] exponents = new int[3];
        private final long[] fractions = new long[3];
        /** What a result was packed to. */
        private long packed;

        Floats(State now, Memory memory, Operands operands) {
            this.now = now;
            this.memory = memory;
            this.operands = operands;
        }

        void execute(int opcode) {
            boolean wide = opcode >= 0x60;
            int low = opcode & 31;
            long[] v = operands.values;
            switch (low) {
                case 0x0C: case 0x0D: case 0x0E:
                    fromInteger(v[0], wide);
                    store(1, false);
                    break;
                case 0x0F:
                    loop(wide);
                    break;
                case 0x10:
                    operands.put(1, v[0]);
                    now.flags((v[0] & 0x8000) != 0, (v[0] & 0x7F80) == 0, false, now.has(BIT_C));
                    break;
                case 0x11:
                    unpack(0, v[0], wide);
                    unpack(1, v[1], wide);
                    int order = compare(0, 1);
                    now.flags(order < 0, order == 0, false, false);
                    break;
                case 0x12:
                    packed = (v[0] & 0x7F80) == 0 ? 0 : v[0] ^ 0x8000;
                    store(1, false);
                    break;
                case 0x13:
                    flagsOf(v[0], false);
                    break;
                case 0x16:
                    unpack(0, v[0], wide);
                    if (pack(below[0], exponents[0], fractions[0] << 6, !wide)) {
                        store(1, false);
                    }
                    break;
                default:
                    if (low < 8) {
                        arithmetic(low, wide);
                    } else {
                        toInteger(low, wide);
                    }
            }
        }

        private void flagsOf(long bits, boolean carry) {
            now.flags((bits & 0x8000) != 0, (bits & 0x7F80) == 0, false, carry);
        }

        private void store(int to, boolean carry) {
            operands.put(to, packed);
            flagsOf(packed, carry);
        }

        private void unpack(int k, long bits, boolean wide) {
            below[k] = (bits & 0x8000) != 0;
            exponents[k] = (int) (bits >>> 7) & 255;
            long fraction = 1L << 55 | (bits & 0x7F) << 48 | (bits >>> 16 & 0xFFFF) << 32;
            if (wide) {
                fraction |= (bits >>> 32 & 0xFFFF) << 16 | bits >>> 48;
            }
            fractions[k] = exponents[k] == 0 ? 0 : fraction;
        }

        /** Rounds a size whose highest 1 is bit 61 (or which is 0) and packs it; false if that is a fault. */
        private boolean pack(boolean sign, int exponent, long size, boolean wide) {
            packed = 0;
            if (size == 0) {
                return true;
            }
            int drop = wide ? 6 : 38;
            long rounded = size + (1L << drop - 1) >>> drop << drop;
            int e = exponent;
            if (rounded >>> TOP + 1 != 0) {
                rounded >>>= 1;
                e++;
            }
            if (e > 255) {
                return memory.raiseNumber(ARITHMETIC, FLOAT_OVERFLOW);
            }
            if (e < 1) {
                return !now.has(BIT_FU) || memory.raiseNumber(ARITHMETIC, FLOAT_UNDERFLOW);
            }
            long fraction = rounded >>> 6;
            packed = (sign ? 0x8000 : 0) | (long) e << 7 | fraction >>> 48 & 0x7F | (fraction >>> 32 & 0xFFFF) << 16;
            if (wide) {
                packed |= (fraction >>> 16 & 0xFFFF) << 32 | fraction << 48;
            }
            return true;
        }

        private void arithmetic(int low, boolean wide) {
            unpack(0, operands.values[0], wide);
            unpack(1, operands.values[1], wide);
            boolean fine;
            switch (low >>> 1) {
                case 0:
                    fine = add(wide);
                    break;
                case 1:
                    below[0] = !below[0];
                    fine = add(wide);
                    break;
                case 2:
                    fine = multiply(wide);
                    break;
                default:
                    fine = divide(wide);
            }
            if (fine) {
                store(1 + (low & 1), false);
            }
        }

        /** The sum of numbers 0 and 1. What is cut off below bit 0 can't change how the rest is rounded. */
        private boolean add(boolean wide) {
            boolean swapped = sizeOrder(0, 1) < 0;
            int larger = swapped ? 1 : 0;
            int smaller = swapped ? 0 : 1;
            long a = fractions[larger] << 6;
            long b = fractions[smaller] << 6;
            int apart = exponents[larger] - exponents[smaller];
            long moved = apart > 62 ? 0 : b >>> apart;
            boolean cut = apart > 62 ? b != 0 : moved << apart != b;
            int e = exponents[larger];
            long size = a + moved;
            if (below[larger] != below[smaller]) {
                size = a - moved - (cut ? 1 : 0);
            }
            if (size >>> TOP + 1 != 0) {
                size >>>= 1;
                e++;
            } else if (size != 0) {
                int up = Long.numberOfLeadingZeros(size) - 2;
                size <<= up;
                e -= up;
            }
            return pack(below[larger], e, size, wide);
        }

        private boolean multiply(boolean wide) {
            long mask = (1L << 28) - 1;
            long a1 = fractions[0] >>> 28;
            long a0 = fractions[0] & mask;
            long b1 = fractions[1] >>> 28;
            long b0 = fractions[1] & mask;
            long low = a0 * b0;
            long middle = a1 * b0 + a0 * b1 + (low >>> 28);
            long high = a1 * b1 + (middle >>> 28);
            long rest = (middle & mask) << 28 | low & mask;
            int e = exponents[0] + exponents[1] - 128;
            boolean sign = below[0] != below[1];
            if (high >>> 55 != 0) {
                return pack(sign, e, high << 6 | rest >>> 50, wide);
            }
            return pack(sign, e - 1, high << 7 | rest >>> 49, wide);
        }

        /** Number 1 by number 0. */
        private boolean divide(boolean wide) {
            if (fractions[0] == 0) {
                return memory.raiseNumber(ARITHMETIC, DIVISION_BY_ZERO);
            }
            long rest = fractions[1];
            long size = 0;
            for (int i = 0; i < 63; i++) {
                size <<= 1;
                if (rest >= fractions[0]) {
                    rest -= fractions[0];
                    size++;
                }
                rest <<= 1;
            }
            int e = exponents[1] - exponents[0] + 128;
            boolean sign = below[0] != below[1];
            if (size >>> TOP + 1 != 0) {
                return pack(sign, e + 1, size >>> 1, wide);
            }
            return pack(sign, e, size, wide);
        }

        private int sizeOrder(int i, int k) {
            if (exponents[i] != exponents[k]) {
                return Integer.compare(exponents[i], exponents[k]);
            }
            return Long.compare(fractions[i], fractions[k]);
        }

        private int compare(int i, int k) {
            if (below[i] != below[k]) {
                return below[i] ? -1 : 1;
            }
            return below[i] ? sizeOrder(k, i) : sizeOrder(i, k);
        }

        private void loop(boolean wide) {
            for (int k = 0; k < 3; k++) {
                unpack(k, operands.values[k], wide);
            }
            boolean down = below[1];
            long limit = operands.values[0];
            below[0] = below[2];
            exponents[0] = exponents[2];
            fractions[0] = fractions[2];
            if (!add(wide)) {
                return;
            }
            store(2, now.has(BIT_C));
            unpack(0, limit, wide);
            unpack(1, packed, wide);
            int order = compare(1, 0);
            if (down ? order >= 0 : order <= 0) {
                now.registers[PC] = operands.branch;
            }
        }

        private void fromInteger(long value, boolean wide) {
            long size = Math.abs(value);
            int up = size == 0 ? 0 : Long.numberOfLeadingZeros(size) - 2;
            pack(value < 0, 128 + TOP + 1 - up, size << up, wide);
        }

        private void toInteger(int low, boolean wide) {
            unpack(0, operands.values[0], wide);
            int size = low == 8 ? 1 : low == 9 ? 2 : 4;
            long fraction = fractions[0];
            int left = exponents[0] - 128 - 56;
            long whole;
            if (left >= 0) {
                whole = left > 63 ? 0 : fraction << left;
            } else {
                whole = -left > 63 ? 0 : fraction >>> -left;
                boolean up = low == 11 && -left <= 63 && (fraction >>> -left - 1 & 1) != 0;
                whole = up ? whole + 1 : whole;
            }
            long value = below[0] ? -whole : whole;
            long result = Operands.signed(value, size);
            boolean v = left >= 0 && fraction != 0 || result != value;
            operands.put(1, result);
            now.flags(result < 0, result == 0, v, false);
            operands.overflow(v);
        }
    }

    /** Steps: interrupts, exceptions, and instructions from their first byte to their end. */
    private static final class Processor {
        private static final int EXCEPTION = -1;
        private static final int NO_STACK = -2;
        /** What is added to a mode to tell that CHM takes it. */
        private static final int TO_MODE = 64;
        private static final int HALTS = -1;
        private static final String NONE = "-";

        private static final int INTEGERS = 0;
        private static final int BRANCHES = 1;
        private static final int FLOW = 2;
        private static final int FIELDS = 3;
        private static final int QUEUES = 4;
        private static final int STRINGS = 5;
        private static final int SUMS = 6;
        private static final int DECIMALS = 7;
        private static final int CONVERSIONS = 8;
        private static final int EDIT = 9;
        private static final int FLOATS = 10;

        private final State now;
        private final Memory memory;
        private final Specials specials;
        private final Operands operands;
        private final Integers integers;
        private final Fields fields;
        private final Flow flow;
        private final Strings strings;
        private final Decimals decimals;
        private final Floats floats;
        /** The registers as at the instruction's beginning, STATUS with TP 0. */
        private final int[] before = new int[17];
        private int opcode;
        /** Whether the instruction had begun in an earlier step. */
        private boolean going;

        Processor(State now, Memory memory, Specials specials) {
            this.now = now;
            this.memory = memory;
            this.specials = specials;
            operands = new Operands(now, memory);
            integers = new Integers(now, memory, operands);
            fields = new Fields(now, memory, operands);
            flow = new Flow(now, memory, operands, specials);
            strings = new Strings(now, memory, operands);
            decimals = new Decimals(now, memory, operands);
            floats = new Floats(now, memory, operands);
        }

        /** Takes an interrupt, or else TRACE: true if the step is over with that. */
        boolean interrupted() {
            int[] r = now.registers;
            int request = greatestRequest();
            int level = levelOf(request);
            if (level > (r[STATUS] >>> 16 & 31)) {
                if (request < 0) {
                    now.specials[SOFTWARE_BITS] &= ~(1 << level);
                    take(SOFTWARE + 4 * level, level, 0, 0, 0);
                } else {
                    now.requests[request] = false;
                    take(request == CLOCK_REQUEST ? 192 : 248 + 4 * request, level, 0, 0, 0);
                }
                return true;
            }
            if (now.has(BIT_TP)) {
                r[STATUS] &= ~BIT_TP;
                take(TRACE, EXCEPTION, 0, 0, 0);
                return true;
            }
            return false;
        }

        /** The device whose request has the greatest level; -1 if there is none but the software's. */
        private int greatestRequest() {
            if (now.requests[CLOCK_REQUEST]) {
                return CLOCK_REQUEST;
            }
            if (now.requests[DISK_REQUEST]) {
                return DISK_REQUEST;
            }
            if (now.requests[KEY_REQUEST]) {
                return KEY_REQUEST;
            }
            return now.requests[TYPED_REQUEST] ? TYPED_REQUEST : -1;
        }

        private int levelOf(int request) {
            switch (request) {
                case CLOCK_REQUEST:
                    return 24;
                case DISK_REQUEST:
                    return 21;
                case KEY_REQUEST: case TYPED_REQUEST:
                    return 20;
                default:
                    return 31 - Integer.numberOfLeadingZeros(now.specials[SOFTWARE_BITS] | 1);
            }
        }

        /** Takes an exception, an interrupt (kind is its level) or CHM (kind is TO_MODE and the mode). */
        private void take(int offset, int kind, int many, int one, int two) {
            int at = offset;
            for (int i = 0; i < 2; i++) {
                boolean again = i == 1;
                int place = now.specials[VECTOR_BASE] + at;
                if (!memory.allInside(place, 4)) {
                    break;
                }
                int vector = memory.longAt(place);
                int status = statusFor(again ? NO_STACK : kind, vector & 3);
                if (status == HALTS) {
                    break;
                }
                if (pushFrame(status, again ? 0 : many, one, two)) {
                    now.registers[PC] = vector & ~3;
                    now.counts[TAKEN]++;
                    now.counts[LATEST] = at;
                    return;
                }
                if (at == MACHINE_CHECK || at == STACK_NOT_VALID) {
                    break;
                }
                at = STACK_NOT_VALID;
            }
            now.counts[HALT_KIND] = BY_EXCEPTION;
        }

        /** The new STATUS, for a vector with these low bits; or that the computer HALTS. */
        private int statusFor(int kind, int bits) {
            int old = now.registers[STATUS];
            int mode = old >>> 24 & 3;
            int level = old & 31 << 16;
            if (kind == NO_STACK) {
                return BIT_IS | 31 << 16 | mode << 22;
            }
            if (kind >= TO_MODE) {
                return (old & BIT_IS) != 0 ? HALTS : kind - TO_MODE << 24 | mode << 22 | level;
            }
            if (bits > 1) {
                return HALTS;
            }
            boolean onInterrupts = bits == 1 || (old & BIT_IS) != 0;
            int stack = onInterrupts ? BIT_IS : 0;
            if (kind >= 0) {
                return stack | kind << 16;
            }
            return stack | mode << 22 | (onInterrupts ? 31 << 16 : level);
        }

        /** Pushes STATUS, PC and parameters on the stack of a new STATUS, in its mode, and enters it. */
        private boolean pushFrame(int status, int many, int one, int two) {
            int[] r = now.registers;
            int stack = (status & BIT_IS) != 0 ? 4 : status >>> 24 & 3;
            int top = now.stackPointer(stack) - 8 - 4 * many;
            if (!memory.open(top, 8 + 4 * many, true, status >>> 24 & 3)) {
                return false;
            }
            if (many > 0) {
                memory.putValue(4 * many - 4, 4, one);
            }
            if (many > 1) {
                memory.putValue(0, 4, two);
            }
            memory.putValue(4 * many, 4, r[PC]);
            memory.putValue(4 * many + 4, 4, r[STATUS]);
            now.changeStatus(status);
            r[SP] = top;
            return true;
        }

        /** Begins an instruction: its opcode, and all of its operands. */
        void decode() {
            begin();
            opcode = operands.fetch(1) ? (int) operands.fetched : -1;
            going = now.has(BIT_FPD);
            if (opcode < 0) {
                return;
            }
            String format = formatOf(opcode);
            if (!permitted(format)) {
                memory.raise(RESERVED_INSTRUCTION);
            }
            int length = going ? 0 : format.length();
            for (int i = 0; i + 1 < length && memory.trouble == 0; i += 2) {
                operands.workOut(i / 2, format.charAt(i), typeOf(opcode, format.charAt(i + 1)));
            }
        }

        private void begin() {
            int[] r = now.registers;
            r[STATUS] = r[STATUS] & ~BIT_TP | (now.has(BIT_T) ? BIT_TP : 0);
            System.arraycopy(r, 0, before, 0, before.length);
            before[STATUS] &= ~BIT_TP;
            memory.clear();
            operands.clear();
            strings.clear();
        }

        private boolean permitted(String format) {
            if (format.length() == 1) {
                return false;
            }
            if (going) {
                return groupOf(opcode) == STRINGS;
            }
            switch (opcode) {
                case 0x00: case 0x06: case 0x07: case 0xDA: case 0xDB:
                    return now.mode() == 0;
                default:
                    return true;
            }
        }

        /** What the instruction does with its operands; its results are left to conclude. */
        void execute() {
            if (memory.trouble != 0) {
                return;
            }
            switch (groupOf(opcode)) {
                case INTEGERS:
                    integers.execute(opcode);
                    break;
                case BRANCHES:
                    flow.branch(opcode);
                    break;
                case FIELDS:
                    fields.execute(opcode);
                    break;
                case QUEUES:
                    fields.queue(opcode);
                    break;
                case STRINGS:
                    strings.perform(opcode, before[PC], going);
                    break;
                case SUMS:
                    decimals.arithmetic(opcode);
                    break;
                case DECIMALS:
                    decimals.others(opcode);
                    break;
                case CONVERSIONS:
                    decimals.conversion(opcode);
                    break;
                case EDIT:
                    decimals.edit();
                    break;
                case FLOATS:
                    floats.execute(opcode);
                    break;
                default:
                    flow.execute(opcode);
            }
        }

        /** Ends an instruction: its results, or what a fault undoes; then what is taken behind it. */
        void conclude() {
            if (memory.trouble == 0) {
                operands.finish();
            }
            if (memory.trouble != 0) {
                undo();
                take(memory.trouble, EXCEPTION, memory.parameters, memory.one, memory.two);
                return;
            }
            if (opcode == 0x00) {
                now.counts[HALT_KIND] = BY_INSTRUCTION;
                return;
            }
            if (strings.begun && !strings.ended) {
                return;
            }
            now.counts[ENDED]++;
            if (opcode == 0xDB && operands.values[0] == KEY_BYTE) {
                specials.keyWasRead();
            }
            if (opcode >= 0xBC && opcode <= 0xBF) {
                int mode = Math.min(opcode & 3, now.mode());
                take(CHANGE_MODE + 4 * (opcode & 3), TO_MODE + mode, 1, (int) operands.values[0], 0);
            } else if (operands.trap != 0) {
                take(ARITHMETIC, EXCEPTION, 1, operands.trap, 0);
            }
        }

        private void undo() {
            if (strings.begun) {
                now.registers[PC] = before[PC];
                now.registers[STATUS] = before[STATUS] | BIT_FPD;
            } else {
                System.arraycopy(before, 0, now.registers, 0, before.length);
            }
        }

        private static int groupOf(int opcode) {
            if (opcode < 0x40) {
                return lowGroupOf(opcode);
            }
            if (opcode < 0x80) {
                if (opcode >= 0x5C && opcode <= 0x5F) {
                    return QUEUES;
                }
                boolean integer = opcode == 0x58 || opcode >= 0x78;
                return integer ? INTEGERS : FLOATS;
            }
            switch (opcode) {
                case 0xBA: case 0xBB: case 0xBC: case 0xBD: case 0xBE: case 0xBF:
                case 0xDA: case 0xDB: case 0xFA: case 0xFB:
                    return FLOW;
                case 0xE8: case 0xE9:
                    return BRANCHES;
                case 0xF8: case 0xF9:
                    return DECIMALS;
                default:
                    return opcode >= 0xE0 && opcode <= 0xF0 ? FIELDS : INTEGERS;
            }
        }

        private static int lowGroupOf(int opcode) {
            switch (opcode) {
                case 0x08: case 0x09: case 0x24: case 0x26:
                    return CONVERSIONS;
                case 0x0A: case 0x32: case 0x33: case 0x3C: case 0x3D: case 0x3E: case 0x3F:
                    return INTEGERS;
                case 0x0E: case 0x0F:
                    return QUEUES;
                case 0x20: case 0x21: case 0x22: case 0x23: case 0x25: case 0x27:
                    return SUMS;
                case 0x34: case 0x35: case 0x36: case 0x37:
                    return DECIMALS;
                case 0x38:
                    return EDIT;
                case 0x0B: case 0x28: case 0x29: case 0x2A: case 0x2B: case 0x2C: case 0x2D: case 0x2E: case 0x2F:
                case 0x39: case 0x3A: case 0x3B:
                    return STRINGS;
                default:
                    return opcode < 0x10 ? FLOW : BRANCHES;
            }
        }

        /** A family's letter s (integers), x or y (floats; y is not looked at for what is reserved) as its type. */
        private static char typeOf(int opcode, char letter) {
            switch (letter) {
                case 's':
                    return opcode < 0xA0 ? 'b' : opcode < 0xC0 ? 'w' : 'l';
                case 'x':
                    return opcode < 0x60 ? 'f' : 'd';
                case 'y':
                    return opcode < 0x60 ? 'g' : 'h';
                default:
                    return letter;
            }
        }

        /** The operands, two letters each: how it is used (j a branch) and its type; NONE for no such opcode. */
        private static String formatOf(int opcode) {
            if (opcode < 0x20) {
                return systemFormat(opcode);
            }
            if (opcode < 0x40) {
                return stringFormat(opcode);
            }
            if (opcode < 0x80) {
                return floatFormat(opcode);
            }
            if (opcode < 0xE0) {
                return integerFormat(opcode);
            }
            return fieldFormat(opcode);
        }

        private static String systemFormat(int opcode) {
            switch (opcode) {
                case 0x00: case 0x01: case 0x02: case 0x03: case 0x04: case 0x05: case 0x06: case 0x07:
                    return "";
                case 0x08: case 0x09:
                    return "rwabrwab";
                case 0x0A:
                    return "rlrlrlrlrlwl";
                case 0x0B:
                    return "abrlrwab";
                case 0x0C: case 0x0D:
                    return "rbrwab";
                case 0x0E:
                    return "abab";
                case 0x0F:
                    return "abwl";
                case 0x16: case 0x17:
                    return "ab";
                default:
                    return "jb";
            }
        }

        private static String stringFormat(int opcode) {
            switch (opcode) {
                case 0x20: case 0x22: case 0x37: case 0x39:
                    return "rwabrwab";
                case 0x21: case 0x23: case 0x25: case 0x27:
                    return "rwabrwabrwab";
                case 0x24: case 0x26:
                    return "rwababrwab";
                case 0x28: case 0x29: case 0x34: case 0x35:
                    return "rwabab";
                case 0x2A: case 0x2B:
                    return "rwababrb";
                case 0x2C: case 0x2D:
                    return "rwabrbrwab";
                case 0x2E: case 0x2F:
                    return "rwabrbabrwab";
                case 0x30: case 0x31:
                    return "jw";
                case 0x32: case 0x3C:
                    return "rwwl";
                case 0x33:
                    return "rwwb";
                case 0x36:
                    return "rwabwl";
                case 0x38:
                    return "rwababab";
                case 0x3A: case 0x3B:
                    return "rbrwab";
                case 0x3D:
                    return "rwrwmwjw";
                case 0x3E:
                    return "awwl";
                default:
                    return "aw";
            }
        }

        private static String floatFormat(int opcode) {
            switch (opcode) {
                case 0x56:
                    return "rfwd";
                case 0x58:
                    return "rwmw";
                case 0x5C: case 0x5D:
                    return "abaq";
                case 0x5E: case 0x5F:
                    return "aqwl";
                case 0x76:
                    return "rdwf";
                case 0x78:
                    return "rbrlwl";
                case 0x79:
                    return "rbrqwq";
                case 0x7A:
                    return "rlrlrlwq";
                case 0x7B:
                    return "rlrqwlwl";
                case 0x7C:
                    return "wq";
                case 0x7D:
                    return "rqwq";
                case 0x7E:
                    return "aqwl";
                case 0x7F:
                    return "aq";
                default:
                    return floatFamilyFormat(opcode & 31);
            }
        }

        private static String floatFamilyFormat(int low) {
            switch (low) {
                case 0x00: case 0x02: case 0x04: case 0x06:
                    return "rxmx";
                case 0x01: case 0x03: case 0x05: case 0x07:
                    return "rxrxwx";
                case 0x08:
                    return "rxwb";
                case 0x09:
                    return "rxww";
                case 0x0A: case 0x0B:
                    return "rxwl";
                case 0x0C:
                    return "rbwx";
                case 0x0D:
                    return "rwwx";
                case 0x0E:
                    return "rlwx";
                case 0x0F:
                    return "rxrxmxjw";
                case 0x10:
                    return "rywy";
                case 0x11:
                    return "rxrx";
                case 0x12:
                    return "rxwx";
                case 0x13:
                    return "rx";
                default:
                    return NONE;
            }
        }

        private static String integerFormat(int opcode) {
            switch (opcode) {
                case 0x98: case 0x9A:
                    return "rbwl";
                case 0x99: case 0x9B:
                    return "rbww";
                case 0x9C:
                    return "rbrlwl";
                case 0x9D:
                    return "rbrbmbjw";
                case 0x9E:
                    return "abwl";
                case 0x9F:
                    return "ab";
                case 0xB8: case 0xB9: case 0xBA: case 0xBB: case 0xBC: case 0xBD: case 0xBE: case 0xBF:
                    return "rw";
                case 0xD8: case 0xD9:
                    return "rlml";
                case 0xDA:
                    return "rlrl";
                case 0xDB:
                    return "rlwl";
                case 0xDC:
                    return "wl";
                case 0xDD:
                    return "rl";
                case 0xDE:
                    return "alwl";
                case 0xDF:
                    return "al";
                default:
                    return integerFamilyFormat(opcode & 31);
            }
        }

        private static String integerFamilyFormat(int low) {
            switch (low) {
                case 0x0E: case 0x10: case 0x12:
                    return "rsws";
                case 0x0F:
                    return "rsrsrs";
                case 0x11: case 0x13:
                    return "rsrs";
                case 0x14:
                    return "ws";
                case 0x15:
                    return "rs";
                case 0x16: case 0x17:
                    return "ms";
                default:
                    return (low & 1) == 0 ? "rsms" : "rsrsws";
            }
        }

        private static String fieldFormat(int opcode) {
            switch (opcode) {
                case 0xE8: case 0xE9:
                    return "rljb";
                case 0xEA: case 0xEB: case 0xEE: case 0xEF:
                    return "rlrbvbwl";
                case 0xEC: case 0xED:
                    return "rlrbvbrl";
                case 0xF0:
                    return "rlrlrbvb";
                case 0xF1:
                    return "rlrlmljw";
                case 0xF2: case 0xF3:
                    return "rlmljb";
                case 0xF4: case 0xF5:
                    return "mljb";
                case 0xF6:
                    return "rlwb";
                case 0xF7:
                    return "rlww";
                case 0xF8:
                    return "rbrwabrbrwab";
                case 0xF9:
                    return "rlrwab";
                case 0xFA:
                    return "abab";
                case 0xFB:
                    return "rlab";
                case 0xFC: case 0xFD: case 0xFE: case 0xFF:
                    return NONE;
                default:
                    return "rlvbjb";
            }
        }
    }
}
