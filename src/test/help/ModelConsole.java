import java.util.Arrays;

/** The console of the second computer: the document's face, each call by its name and arguments (a boolean is 1 or 0). */
final class ModelConsole {
    private Model m;
    private final int pages;
    private final int sectors;
    private final byte[] tape = new byte[1000];
    private final Model[] places = new Model[2];
    private int taped;

    ModelConsole(int pages, int sectors) {
        this.pages = pages < 8 || pages > 128 ? 32 : pages;
        this.sectors = sectors < 0 || sectors > 64 ? 8 : sectors;
        m = new Model(this.pages, this.sectors);
    }

    int bytes() {
        return 512 * pages;
    }

    boolean halted() {
        return m.halted != 0;
    }

    long call(String name, int... a) {
        return switch (name) {
            case "feed" -> feed(a);
            case "load" -> load(a[0], a[1]);
            case "stow" -> stow(a[0], a[1]);
            case "run" -> run(a[0]);
            case "register" -> a[0] == 16 ? plain(m.status) : a[0] < 0 || a[0] > 16 ? -1 : plain(m.r[a[0]]);
            case "set" -> set(a[0], a[1]);
            case "special" -> m.readSpecial(a[0]) == null ? -1 : plain(m.readSpecial(a[0]));
            case "write" -> truth(m.writeSpecial(a[0], a[1]));
            case "memory" -> memory(a[0], a[1]);
            case "where" -> where(a[0], a[1] & 3, a[2] != 0);
            case "key" -> truth(a[0] >= 0 && a[0] < 256 && m.key(a[0]));
            case "typed" -> a[0] < 0 || a[0] > 63 || a[0] >= m.typed.size() ? -1 : m.typed.get(m.typed.size() - 1 - a[0]);
            case "go" -> go(a[0]);
            case "halt" -> halt();
            case "proceed" -> go(m.r[15]);
            case "boot" -> boot(a[0], a[1], a[2]);
            case "keep" -> keep(a[0]);
            case "back" -> back(a[0]);
            case "disk" -> a[0] < 0 || a[0] >= sectors || a[1] < 0 || a[1] > 511 ? -1 : m.disk[a[0]][a[1]] & 255;
            case "kept" -> kept(a[0], a[1]);
            default -> state(a[0]);
        };
    }

    private static long truth(boolean is) {
        return is ? 1 : 0;
    }

    private static long plain(int v) {
        return Integer.toUnsignedLong(v);
    }

    private long feed(int[] five) {
        if (taped > 980) {
            return 0;
        }
        for (int one : five) {
            for (int shift = 24; shift >= 0; shift -= 8) {
                tape[taped++] = (byte) (one >> shift);
            }
        }
        return 1;
    }

    private long load(int address, int n) {
        if (n < 1 || n > taped || address < 0 || (long) address + n > bytes()) {
            return 0;
        }
        System.arraycopy(tape, 0, m.memory, address, n);
        taped = 0;
        return 1;
    }

    private long stow(int sector, int n) {
        if (n < 1 || n > taped || n > 512 || sector < 0 || sector >= sectors) {
            return 0;
        }
        m.disk[sector] = Arrays.copyOf(Arrays.copyOf(tape, n), 512);
        taped = 0;
        return 1;
    }

    private long run(int n) {
        if (n < 1 || n > 2000) {
            return -1;
        }
        int before = m.steps;
        for (int i = 0; i < n; i++) {
            m.step();
        }
        return m.steps - before;
    }

    private long set(int k, int v) {
        if (k == 16) {
            m.status(v & 0x4FDF00FF);
        } else if (k >= 0 && k < 16) {
            m.r[k] = v;
        }
        return truth(k >= 0 && k <= 16);
    }

    private long memory(int address, int size) {
        if (size != 1 && size != 2 && size != 4 && size != 8 || address < 0 || (long) address + size > bytes()) {
            return -1;
        }
        long v = 0;
        for (int i = 0; i < size; i++) {
            v |= (m.memory[address + i] & 255L) << 8 * i;
        }
        return v;
    }

    private long where(int address, int mode, boolean write) {
        try {
            int at = m.translate(address, write, mode, false, true);
            return at < 0 || at >= bytes() ? -100 : at;
        } catch (Model.Fault f) {
            return f.offset == 4 ? -100 : (f.offset == 32 ? -1 : -11) - f.parameters[1];
        }
    }

    private long go(int address) {
        if (m.halted == 0) {
            return 0;
        }
        m.r[15] = address;
        m.halted = 0;
        return 1;
    }

    private long halt() {
        if (m.halted != 0) {
            return 0;
        }
        m.halted = 3;
        return 1;
    }

    private long boot(int sector, int many, int address) {
        boolean there = sector >= 0 && many >= 1 && (long) sector + many <= sectors;
        if (m.halted == 0 || !there || address < 0 || address + 512L * many > bytes()) {
            return 0;
        }
        Model fresh = new Model(pages, sectors);
        fresh.special.put(27, m.sp(27));
        fresh.special.put(33, m.sp(33));
        fresh.typed.addAll(m.typed);
        fresh.steps = m.steps;
        fresh.taken = m.taken;
        fresh.latest = m.latest;
        fresh.ended = m.ended;
        fresh.halted = 0;
        System.arraycopy(m.memory, 0, fresh.memory, 0, bytes());
        for (int i = 0; i < sectors; i++) {
            fresh.disk[i] = m.disk[i].clone();
        }
        for (int i = 0; i < many; i++) {
            System.arraycopy(m.disk[sector + i], 0, fresh.memory, address + 512 * i, 512);
        }
        fresh.r[14] = address + 512 * many;
        fresh.r[15] = address;
        m = fresh;
        return 1;
    }

    private long keep(int place) {
        if (place != 0 && place != 1) {
            return 0;
        }
        places[place] = Model.like(m);
        return 1;
    }

    private long back(int place) {
        if (place != 0 && place != 1 || places[place] == null) {
            return 0;
        }
        m = Model.like(places[place]);
        return 1;
    }

    private long kept(int i, int what) {
        if (i < 0 || i > 31 || what < 0 || what > 2) {
            return -1;
        }
        int[] entry = m.kept.get(i);
        return what == 0 ? truth(entry != null) : entry == null ? -1 : plain(entry[what - 1]);
    }

    private long state(int what) {
        return switch (what) {
            case 0 -> m.halted;
            case 1 -> m.steps;
            case 2 -> m.taken;
            case 3 -> m.latest;
            case 4 -> m.typed.size();
            case 5 -> taped;
            case 6 -> m.kept.size();
            case 7 -> m.ended;
            default -> -1;
        };
    }
}
