import java.lang.reflect.Field;
import java.lang.reflect.Modifier;
import java.nio.file.Files;
import java.nio.file.Path;
import java.util.HashMap;
import java.util.HashSet;
import java.util.List;
import java.util.Map;
import java.util.Set;
import java.util.regex.Matcher;
import java.util.regex.Pattern;

/** What of LANGUAGE.md can be seen in the text of the class (run from the project's folder). */
public final class LanguageTest {
    private static final Path SOURCE = Path.of("src", "main", "java", "LeatDays.java");
    private static final List<String> NO_WORDS = List.of("throw", "try", "catch", "finally", "synchronized", "assert",
            "import", "package", "goto", "Exact", "native", "volatile", "transient", "instanceof", "Object",
            "hashCode", "toString", "double", "float", "record", "protected", "this");
    /** All that the class uses of the library. */
    private static final Set<String> LIBRARY = Set.of("Math.max", "Math.min", "Integer.bitCount", "System.arraycopy");
    /** Group 1 how far it stands in, 2 its name, 3 what it takes. */
    private static final Pattern METHOD =
            Pattern.compile("(?m)^( {4}| {8})(?!if|for|while|switch)[a-z][^=;\n]* (\\w+)\\(([^)]*)\\) \\{$");

    private static int wrong = 0;

    public static void main(String[] args) throws Exception {
        String text = Files.readString(SOURCE);
        hold("signs 10 and 32 to 126 alone", text.chars().allMatch(c -> c == 10 || c >= 32 && c < 127));
        String code = text.replaceAll("(?s)/\\*.*?\\*/", "").replaceAll("//[^\n]*", "");
        for (String word : NO_WORDS) {
            hold("no " + word, !Pattern.compile("\\b" + word + "\\b").matcher(code).find());
        }
        hold("no lambda", !code.contains("->"));
        hold("no method reference", !code.contains("::"));
        hold("at most 12 classes", count(code, "\\bclass\\b") <= 12);
        onlyMadeAtFirst(code);
        onlyTheLibrary(code);
        methodsStayShort(code);
        callsGoEightDeep(code);
        fieldsAreFew();
        System.out.println(wrong == 0 ? "the text keeps to the language" : wrong + " wrong");
        System.exit(wrong == 0 ? 0 : 1);
    }

    /** Objects are made in field lines and in the constructor: a call makes none. */
    private static void onlyMadeAtFirst(String code) {
        int start = code.indexOf("public LeatDays()");
        int end = code.indexOf("\n    }", start);
        String rest = code.substring(0, start) + code.substring(end);
        for (String line : rest.split("\n")) {
            boolean field = line.trim().matches("(private )?final .*= new .*;");
            hold("makes nothing: " + line.trim(), field || !line.contains("new "));
            hold("no static state: " + line.trim(), !line.matches(".*\\bstatic\\b(?!.*(final|\\()).*"));
        }
    }

    /** Rule 4: each name of a class is of this file, or is that of a call in the library. */
    private static void onlyTheLibrary(String code) {
        Matcher m = Pattern.compile("\\b[A-Z][a-z]\\w*\\b(\\.\\w+)?").matcher(code);
        while (m.find()) {
            String name = m.group();
            hold("in the library: " + name, LIBRARY.contains(name) || code.contains("class " + name + " {"));
        }
    }

    /** Rule 11: some sixty lines, seven parameters. */
    private static void methodsStayShort(String code) {
        Matcher m = METHOD.matcher(code);
        while (m.find()) {
            hold("short: " + m.group().trim(), count(bodyOf(m, code), "\n") <= 60);
            hold("at most 7 parameters: " + m.group().trim(), m.group(3).split(",").length <= 7);
        }
    }

    /** Rule 11: "calls that are no recursion go at most eight deep". */
    private static void callsGoEightDeep(String code) {
        Map<String, Set<String>> calls = new HashMap<>();
        Matcher m = METHOD.matcher(code);
        while (m.find()) {
            Set<String> called = calls.computeIfAbsent(m.group(2), name -> new HashSet<>());
            Pattern.compile("(\\w+)\\(").matcher(bodyOf(m, code)).results().forEach(c -> called.add(c.group(1)));
        }
        hold("methods are found: " + calls.size(), calls.size() > 100);
        for (String name : calls.keySet()) {
            int deep = depth(name, calls, new HashSet<>());
            hold(name + " goes " + deep + " deep", deep <= 8);
        }
    }

    /** How many calls stand open at once, each method once: a recursion's levels are rule 8's. */
    private static int depth(String name, Map<String, Set<String>> calls, Set<String> open) {
        if (!open.add(name)) {
            return 0;
        }
        int deepest = 0;
        for (String called : calls.getOrDefault(name, Set.of())) {
            deepest = Math.max(deepest, depth(called, calls, open));
        }
        open.remove(name);
        return deepest + 1;
    }

    /** Rule 11: "a class some twenty fields beside its constants". */
    private static void fieldsAreFew() {
        Set<Class<?>> classes = new HashSet<>(List.of(LeatDays.class.getDeclaredClasses()));
        classes.add(LeatDays.class);
        for (Class<?> c : classes) {
            int fields = 0;
            for (Field f : c.getDeclaredFields()) {
                fields += Modifier.isStatic(f.getModifiers()) ? 0 : 1;
            }
            hold(fields + " fields in " + c, fields <= 20);
        }
    }

    private static String bodyOf(Matcher method, String code) {
        return code.substring(method.end(), code.indexOf("\n" + method.group(1) + "}", method.end()));
    }

    private static int count(String text, String what) {
        Matcher m = Pattern.compile(what).matcher(text);
        int n = 0;
        while (m.find()) {
            n++;
        }
        return n;
    }

    private static void hold(String what, boolean so) {
        if (!so) {
            wrong++;
            System.out.println("not so: " + what);
        }
    }
}
