import java.util.ArrayList;
import java.util.Arrays;
import java.util.List;
import java.util.function.Predicate;
import java.util.function.Supplier;
import java.util.function.ToLongFunction;

/** What the tests of edges share: answers that are counted, bytes for the tape, and calls that must change nothing. */
final class Bench {
    /** No object may be used for more calls than the document promises answers for. */
    private static final int LOOKS = 250;

    private static int wrong = 0;
    private static int answers = 0;
    private static String part = "";

    private Bench() {
    }

    static void part(String name) {
        part = name;
    }

    static void due(String what, long got, long want) {
        answers++;
        if (got != want) {
            wrong++;
            if (wrong < 60) {
                System.out.println(part + ": " + what + " answered " + got + " (" + Long.toHexString(got) + "), due is "
                    + want + " (" + Long.toHexString(want) + ")");
            }
        }
    }

    static void yes(String what, boolean got) {
        due(what, got ? 1 : 0, 1);
    }

    static void no(String what, boolean got) {
        due(what, got ? 1 : 0, 0);
    }

    static void end(String name) {
        System.out.println(name + ": " + (wrong == 0 ? answers + " answers are as due" : wrong + " answers are not as due"));
        if (wrong != 0) {
            System.exit(1);
        }
    }

    /** Numbers and rows of numbers, one behind the other. */
    static int[] code(Object... parts) {
        int[] all = new int[600];
        int n = 0;
        for (Object one : parts) {
            if (one instanceof Integer i) {
                all[n++] = i;
            } else {
                for (int i : (int[]) one) {
                    all[n++] = i;
                }
            }
        }
        return Arrays.copyOf(all, n);
    }

    static int[] spread(long value, int size) {
        int[] out = new int[size];
        for (int i = 0; i < size; i++) {
            out[i] = (int) (value >>> 8 * i) & 255;
        }
        return out;
    }

    static int[] spread(int[] longs) {
        int[] out = new int[4 * longs.length];
        for (int i = 0; i < out.length; i++) {
            out[i] = longs[i / 4] >>> i % 4 * 8 & 255;
        }
        return out;
    }

    /** An operand at an address. */
    static int[] at(int address) {
        return code(0x9F, spread(address, 4));
    }

    /** Immediate operands of one, two, four and eight bytes. */
    static int[] b(int value) {
        return code(0x8F, spread(value, 1));
    }

    static int[] w(int value) {
        return code(0x8F, spread(value, 2));
    }

    static int[] l(int value) {
        return code(0x8F, spread(value, 4));
    }

    static int[] q(long value) {
        return code(0x8F, spread(value, 8));
    }

    static int[] text(String text) {
        return text.chars().toArray();
    }

    static int[] repeated(int value, int many) {
        int[] out = new int[many];
        Arrays.fill(out, value);
        return out;
    }

    static void tape(RingComputer x, int... values) {
        for (int from = 0; from < values.length; from += 20) {
            int[] five = new int[5];
            for (int i = 0; i < 20 && from + i < values.length; i++) {
                five[i / 4] |= (values[from + i] & 255) << 24 - i % 4 * 8;
            }
            yes("feed", x.feed(five[0], five[1], five[2], five[3], five[4]));
        }
    }

    static void bytes(RingComputer x, int address, int... values) {
        tape(x, values);
        yes("load", x.load(address, values.length));
    }

    static void longs(RingComputer x, int address, int... values) {
        bytes(x, address, spread(values));
    }

    private static List<ToLongFunction<RingComputer>> plainLooks() {
        List<ToLongFunction<RingComputer>> looks = new ArrayList<>();
        for (int i = 0; i < 17; i++) {
            int k = i;
            looks.add(x -> x.register(k));
        }
        for (int i = 0; i < 64; i++) {
            int k = i;
            looks.add(x -> x.special(k));
            looks.add(x -> x.kept(k / 2, 1 + k % 2));
        }
        for (int i = 0; i < 8; i++) {
            int k = i;
            looks.add(x -> x.state(k));
        }
        for (int i = 0; i < 65; i++) {
            int k = i;
            looks.add(x -> x.typed(k));
        }
        return looks;
    }

    private static List<ToLongFunction<RingComputer>> rowLooks(int pages, int sectors) {
        List<ToLongFunction<RingComputer>> looks = new ArrayList<>();
        for (int i = 0; i < pages * 64; i++) {
            int address = 8 * i;
            looks.add(x -> x.memory(address, 8));
        }
        for (int i = 0; i < sectors * 512; i++) {
            int k = i;
            looks.add(x -> x.disk(k / 512, k % 512));
        }
        return looks;
    }

    /** Two objects made alike, one of which had the call: whether each of these looks answers alike. */
    private static void alike(String what, Supplier<RingComputer> make, Predicate<RingComputer> call,
            List<ToLongFunction<RingComputer>> looks) {
        RingComputer without = make.get();
        RingComputer with = make.get();
        call.test(with);
        for (int i = 0; i < looks.size(); i++) {
            due(what + ": look " + i, looks.get(i).applyAsLong(with), looks.get(i).applyAsLong(without));
        }
    }

    /** The look after something else was called, so that what can't be seen now comes out. */
    private static void alikeBehind(String what, Supplier<RingComputer> make, Predicate<RingComputer> call,
            Predicate<RingComputer> other) {
        RingComputer without = make.get();
        RingComputer with = make.get();
        call.test(with);
        due(what + " answered alike", other.test(with) ? 1 : 0, other.test(without) ? 1 : 0);
        for (ToLongFunction<RingComputer> look : plainLooks()) {
            due(what, look.applyAsLong(with), look.applyAsLong(without));
        }
    }

    /** A call that answers false, and changes nothing: not what can be seen, nor what comes later. */
    static void refused(String what, int pages, int sectors, Supplier<RingComputer> make, Predicate<RingComputer> call) {
        no(what, call.test(make.get()));
        unchanged(what, pages, sectors, make, call);
    }

    static void unchanged(String what, int pages, int sectors, Supplier<RingComputer> make, Predicate<RingComputer> call) {
        alike(what, make, call, plainLooks());
        List<ToLongFunction<RingComputer>> rows = rowLooks(pages, sectors);
        for (int from = 0; from < rows.size(); from += LOOKS) {
            alike(what + " (rows from " + from + ")", make, call, rows.subList(from, Math.min(from + LOOKS, rows.size())));
        }
        alikeBehind(what + " then run", make, call, x -> x.run(40) > 3);
        alikeBehind(what + " then back 0", make, call, x -> x.back(0));
        alikeBehind(what + " then back 1", make, call, x -> x.back(1));
        alikeBehind(what + " then load", make, call, x -> x.load(0, 20) && x.memory(0, 8) == x.memory(8, 8));
    }
}
