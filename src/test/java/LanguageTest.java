import java.lang.reflect.Constructor;
import java.lang.reflect.Field;
import java.lang.reflect.Method;
import java.lang.reflect.Modifier;
import java.nio.file.Files;
import java.nio.file.Path;
import java.util.ArrayList;
import java.util.List;
import java.util.Set;
import java.util.TreeSet;
import java.util.regex.Matcher;
import java.util.regex.Pattern;

/** What can be seen of LANGUAGE.md's rules in the file and in the classes made of it. */
public final class LanguageTest {
    private static final Tell T = new Tell("LanguageTest");
    private static final Set<String> FACE = Set.of("feed", "grid", "works", "ask", "drop", "slide", "sweep", "sweeps",
        "jump", "cut", "mend", "relight", "plan", "lasts", "ticks", "seed", "gridIs", "linkIs", "demandIs", "way",
        "found", "witness", "blocked", "repack", "planned", "waits", "unravel", "trial", "bestRule", "parts", "more",
        "ifCut", "keep", "undo", "check", "count");
    private static final Set<String> LIBRARY = Set.of("System.arraycopy", "Long.bitCount", "Integer.bitCount",
        "Math.max", "Math.min");

    private LanguageTest() { }

    public static void main(String[] args) throws Exception {
        Path file = Path.of(args.length > 0 ? args[0] : "src/main/java/FlexGrid.java");
        String source = Files.readString(file);
        words(bare(source));
        lengths(source.split("\n", -1));
        face();
        List<Class<?>> all = new ArrayList<>(List.of(FlexGrid.class.getDeclaredClasses()));
        T.due("at most twelve classes", all.size() < 12, true);
        for (Class<?> c : all) {
            nested(c);
        }
        all.add(FlexGrid.class);
        for (Class<?> c : all) {
            fields(c);
            methods(c);
        }
        T.end();
    }

    /** The source without comments and texts. */
    private static String bare(String source) {
        return source.replaceAll("(?s)/\\*.*?\\*/", " ").replaceAll("//[^\n]*", " ").replaceAll("\"[^\"]*\"", "\"\"");
    }

    private static void words(String source) {
        for (String word : List.of("throw", "throws", "try", "catch", "finally", "synchronized", "assert", "import",
            "package", "protected", "Object", "Exception")) {
            T.due("no " + word, Pattern.compile("\\b" + word + "\\b").matcher(source).find(), false);
        }
        for (String sign : List.of("->", "::", "@", "hashCode", "toString", "[][]")) {
            T.due("no " + sign, source.contains(sign), false);
        }
        Matcher library = Pattern.compile("\\b(System|Long|Integer|Math|Arrays|String)\\.(\\w+)").matcher(source);
        while (library.find()) {
            T.due("library: " + library.group(), LIBRARY.contains(library.group()), true);
        }
        Matcher made = Pattern.compile("(?m)^.*\\bnew\\b.*$").matcher(source);
        while (made.find()) {
            String line = made.group();
            boolean field = line.matches("\\s+(private )?final [\\w\\[\\]]+ \\w+ = new .*");
            boolean inConstructor = line.matches("        \\w+ = new \\w+\\(.*\\);");
            T.due("made once: " + line.trim(), field || inConstructor, true);
        }
    }

    /** A method goes from its first line to the next closing brace as far to the left. */
    private static void lengths(String[] lines) {
        Pattern head = Pattern.compile("^( {4}| {8})(private |public |static |final )*\\w+(\\[\\])? ?\\w*\\(.*\\{$");
        for (int i = 0; i < lines.length; i++) {
            Matcher m = head.matcher(lines[i]);
            T.due("line " + (i + 1) + " within 120", lines[i].length() <= 120, true);
            if (!m.matches() || lines[i].trim().matches("(if|for|while|switch|do|else)\\b.*")) {
                continue;
            }
            int end = i;
            while (!lines[end].equals(m.group(1) + "}")) {
                end++;
            }
            T.due("short: " + lines[i].trim(), end - i + 1 <= 60, true);
        }
    }

    private static void face() {
        Set<String> open = new TreeSet<>();
        for (Method m : FlexGrid.class.getDeclaredMethods()) {
            if (Modifier.isPublic(m.getModifiers())) {
                open.add(m.getName());
            } else {
                T.due("private: " + m.getName(), Modifier.isPrivate(m.getModifiers()), true);
                T.due("named otherwise: " + m.getName(), FACE.contains(m.getName()), false);
            }
        }
        T.due("the face", open.equals(FACE), true);
        T.due("one constructor", FlexGrid.class.getConstructors().length, 1);
        T.due("final", Modifier.isFinal(FlexGrid.class.getModifiers()), true);
        for (Field f : FlexGrid.class.getDeclaredFields()) {
            T.due("field " + f.getName(), Modifier.isPrivate(f.getModifiers()) || f.getName().equals("NONE"), true);
        }
    }

    private static void nested(Class<?> c) {
        T.due(c + " static", Modifier.isStatic(c.getModifiers()), true);
        T.due(c + " private", Modifier.isPrivate(c.getModifiers()), true);
        T.due(c + " holds no class", c.getDeclaredClasses().length, 0);
        for (Method m : c.getDeclaredMethods()) {
            T.due("named otherwise: " + c + " " + m.getName(), FACE.contains(m.getName()), false);
        }
    }

    private static void fields(Class<?> c) {
        int own = 0;
        for (Field f : c.getDeclaredFields()) {
            if (Modifier.isStatic(f.getModifiers())) {
                T.due("constant " + f, Modifier.isFinal(f.getModifiers()), true);
                T.due("of a plain type " + f, Set.of(int.class, int[].class).contains(f.getType()), true);
            } else {
                own++;
            }
        }
        T.due("fields of " + c, own <= 20, true);
    }

    private static void methods(Class<?> c) {
        for (Method m : c.getDeclaredMethods()) {
            T.due("parameters of " + m, m.getParameterCount() <= 7, true);
        }
        for (Constructor<?> k : c.getDeclaredConstructors()) {
            T.due("parameters of " + k, k.getParameterCount() <= 7, true);
        }
    }
}
