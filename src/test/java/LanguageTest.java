import java.nio.file.Files;
import java.nio.file.Path;
import java.util.List;
import java.util.regex.Matcher;
import java.util.regex.Pattern;

/** What of LANGUAGE.md can be seen in the text of the class (run from the project's folder). */
public final class LanguageTest {
    private static final Path SOURCE = Path.of("src", "main", "java", "LeatDays.java");
    private static final List<String> NO_WORDS = List.of("throw", "try", "catch", "finally", "synchronized", "assert",
            "import", "package", "goto", "Exact", "native", "volatile", "transient", "instanceof", "Object",
            "hashCode", "toString", "double", "float", "record", "protected", "this");

    private static int wrong = 0;

    public static void main(String[] args) throws Exception {
        String text = Files.readString(SOURCE);
        hold("signs 10 and 32 to 126 alone", text.chars().allMatch(c -> c == 10 || c >= 32 && c < 127));
        String code = text.replaceAll("(?s)/\\*.*?\\*/", "").replaceAll("//[^\n]*", "");
        for (String word : NO_WORDS) {
            hold("no " + word, !Pattern.compile("\\b" + word + "\\b").matcher(code).find());
        }
        hold("no lambda", !code.contains("->"));
        hold("no method reference", !code.contains("::"));
        hold("at most 12 classes", count(code, "\\bclass\\b") <= 12);
        onlyMadeAtFirst(code);
        methodsStayShort(code);
        System.out.println(wrong == 0 ? "the text keeps to the language" : wrong + " wrong");
        System.exit(wrong == 0 ? 0 : 1);
    }

    /** Objects are made in field lines and in the constructor: a call makes none. */
    private static void onlyMadeAtFirst(String code) {
        int start = code.indexOf("public LeatDays()");
        int end = code.indexOf("\n    }", start);
        String rest = code.substring(0, start) + code.substring(end);
        for (String line : rest.split("\n")) {
            boolean field = line.trim().matches("(private )?final .*= new .*;");
            hold("makes nothing: " + line.trim(), field || !line.contains("new "));
            hold("no static state: " + line.trim(), !line.matches(".*\\bstatic\\b(?!.*(final|\\()).*"));
        }
    }

    private static void methodsStayShort(String code) {
        Matcher m = Pattern.compile("(?m)^( {4}| {8})[a-z][^=;\n]*\\(([^)]*)\\) \\{$").matcher(code);
        int methods = 0;
        while (m.find()) {
            String body = code.substring(m.end(), code.indexOf("\n" + m.group(1) + "}", m.end()));
            if (!m.group().trim().matches("(if|for|while|switch|else)\\b.*")) {
                methods++;
                hold("short: " + m.group().trim(), count(body, "\n") <= 60);
                hold("at most 7 parameters: " + m.group().trim(), m.group(2).split(",").length <= 7);
            }
        }
        hold("methods are found", methods > 60);
    }

    private static int count(String text, String what) {
        Matcher m = Pattern.compile(what).matcher(text);
        int n = 0;
        while (m.find()) {
            n++;
        }
        return n;
    }

    private static void hold(String what, boolean so) {
        if (!so) {
            wrong++;
            System.out.println("not so: " + what);
        }
    }
}
