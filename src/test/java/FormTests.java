import java.lang.reflect.Constructor;
import java.lang.reflect.Field;
import java.lang.reflect.Method;
import java.lang.reflect.Modifier;
import java.nio.charset.StandardCharsets;
import java.nio.file.Files;
import java.nio.file.Path;
import java.util.ArrayList;
import java.util.Arrays;
import java.util.List;
import java.util.TreeSet;
import java.util.regex.Matcher;
import java.util.regex.Pattern;

/** The form of src/main/java/RingComputer.java: what of LANGUAGE.md's rules a program can look at. */
public final class FormTests {
    private static int wrong = 0;

    private static final List<String> FACE = List.of(
        "boolean feed(int,int,int,int,int)", "boolean load(int,int)", "boolean stow(int,int)", "int run(int)",
        "long register(int)", "boolean set(int,int)", "long special(int)", "boolean write(int,int)",
        "long memory(int,int)", "long where(int,int,boolean)", "boolean key(int)", "int typed(int)", "boolean go(int)",
        "boolean halt()", "boolean proceed()", "boolean boot(int,int,int)", "boolean keep(int)", "boolean back(int)",
        "int disk(int,int)", "long kept(int,int)", "int state(int)");

    private static void sure(String what, boolean holds) {
        if (!holds) {
            wrong++;
            System.out.println("form: " + what);
        }
    }

    private static void face() {
        Class<?> c = RingComputer.class;
        sure("rule 1: public and final", Modifier.isPublic(c.getModifiers()) && Modifier.isFinal(c.getModifiers()));
        TreeSet<String> found = new TreeSet<>();
        for (Method m : c.getDeclaredMethods()) {
            if (!Modifier.isPrivate(m.getModifiers())) {
                List<String> types = new ArrayList<>();
                for (Class<?> p : m.getParameterTypes()) {
                    types.add(p.getSimpleName());
                }
                found.add(m.getReturnType().getSimpleName() + " " + m.getName() + "(" + String.join(",", types) + ")");
                sure("rule 1: " + m + " is public", Modifier.isPublic(m.getModifiers()));
            }
        }
        sure("rule 1: the face is " + found, found.equals(new TreeSet<>(FACE)));
        for (Field f : c.getDeclaredFields()) {
            sure("rule 1: " + f + " is private", Modifier.isPrivate(f.getModifiers()));
        }
        Constructor<?>[] made = c.getDeclaredConstructors();
        sure("rule 1: one constructor", made.length == 1 && Modifier.isPublic(made[0].getModifiers()));
    }

    private static void classes() {
        TreeSet<String> names = new TreeSet<>();
        for (String f : FACE) {
            names.add(f.substring(f.indexOf(' ') + 1, f.indexOf('(')));
        }
        Class<?>[] inside = RingComputer.class.getDeclaredClasses();
        sure("rule 11: at most twelve classes", inside.length <= 11);
        for (Class<?> c : inside) {
            sure("rule 2: " + c + " is static", Modifier.isStatic(c.getModifiers()));
            sure("rule 1: " + c + " is not public", !Modifier.isPublic(c.getModifiers()));
            sure("rule 2: " + c + " has no class inside", c.getDeclaredClasses().length == 0);
            int fields = 0;
            for (Field f : c.getDeclaredFields()) {
                if (Modifier.isStatic(f.getModifiers())) {
                    sure("rule 5: " + f + " is final", Modifier.isFinal(f.getModifiers()));
                } else {
                    fields++;
                }
            }
            sure("rule 11: " + c + " has at most twenty fields", fields <= 20);
            for (Method m : c.getDeclaredMethods()) {
                sure("rule 1: " + m + " bears a name of the face", !names.contains(m.getName()));
                sure("rule 11: " + m + " has at most seven parameters", m.getParameterCount() <= 7);
            }
        }
    }

    /** The source without its comments, texts and characters. */
    private static String bare(String source) {
        String out = source.replaceAll("(?s)/\\*.*?\\*/", "").replaceAll("//[^\n]*", "");
        return out.replaceAll("\"[^\"\n]*\"", "\"\"").replaceAll("'[^'\n]'", "' '");
    }

    private static void words(String source) {
        String text = bare(source);
        String[] none = {"throw", "throws", "try", "catch", "finally", "synchronized", "assert", "import", "package", "protected",
            "volatile", "native", "double", "float", "Object", "Exact"};
        for (String word : none) {
            sure("no " + word, !Pattern.compile("\\b" + word + "\\b").matcher(text).find());
        }
        sure("no lambda and no method reference", !text.contains("->") && !text.contains("::"));
        sure("rule 13: no clock or randomness", !text.contains("nanoTime") && !text.contains("currentTime") && !text.contains("random("));
        Matcher calls = Pattern.compile("\\b(System|Math|Integer|Long|String|Arrays|Character|Boolean)\\.(\\w+)").matcher(text);
        List<String> fine = Arrays.asList("arraycopy", "min", "max", "abs", "floorDiv", "floorMod", "compare", "compareUnsigned",
            "numberOfLeadingZeros", "rotateLeft");
        while (calls.find()) {
            sure("rule 4: " + calls.group(), fine.contains(calls.group(2)));
        }
        int at = 0;
        String[] lines = source.split("\n");
        for (int i = 0; i < lines.length; i++) {
            if (lines[i].matches("^( {4}| {8})(private |public |static |final )*[\\w\\[\\]]+ ?\\w*\\(.*\\) \\{$")) {
                at = i;
            }
            boolean ends = at > 0 && lines[i].matches(lines[at].replaceAll("^( *).*", "$1") + "\\}");
            if (ends) {
                sure("rule 11: a short method: " + lines[at].trim() + " " + (i - at), i - at <= 60);
                at = 0;
            }
        }
    }

    public static void main(String[] args) throws Exception {
        face();
        classes();
        Path source = Path.of("src/main/java/RingComputer.java");
        words(Files.readString(source, StandardCharsets.ISO_8859_1));
        System.out.println(wrong == 0 ? "form: all is as due" : wrong + " rules are broken");
        if (wrong != 0) {
            System.exit(1);
        }
    }
}
