import java.io.File;
import java.lang.reflect.Method;
import java.nio.file.Files;
import java.nio.file.Path;
import java.util.List;
import java.util.TreeSet;
import java.util.regex.Matcher;
import java.util.regex.Pattern;
import java.util.stream.Stream;
import javax.tools.ToolProvider;

/**
 * README.md shows what the class answers: its example is made a program in which each line
 * "x.call(..); // answer; other() answer: words" is held (run from the project's folder).
 */
public final class ReadmeTest {
    private static final Pattern HELD =
            Pattern.compile("^x\\.(.*\\));\\s*// (-?\\d+|[A-Z]+)((?:; \\w+\\(\\d*\\) -?\\d+)*)(?:: .*)?$");
    private static final Pattern MORE = Pattern.compile("; (\\w+\\(\\d*\\)) (-?\\d+)");

    private static int wrong = 0;

    public static void main(String[] args) throws Exception {
        String readme = Files.readString(Path.of("README.md"));
        int start = readme.indexOf("```java\n") + 8;
        String example = readme.substring(start, readme.indexOf("```", start));
        everyTestIsTold(readme);
        everyCallIsNamed(readme.substring(readme.indexOf("```", start)));
        runs(programOf(example));
        System.out.println(wrong == 0 ? "README.md is as due" : wrong + " wrong");
        System.exit(wrong == 0 ? 0 : 1);
    }

    private static String programOf(String example) {
        StringBuilder program = new StringBuilder("public final class Shown {\n    static void run(Due due) {\n");
        int held = 0;
        for (String line : example.split("\n")) {
            Matcher m = HELD.matcher(line);
            if (m.matches()) {
                held++;
                program.append(due(m.group(1), m.group(2)));
                for (Matcher more = MORE.matcher(m.group(3)); more.find();) {
                    program.append(due(more.group(1), more.group(2)));
                }
            } else {
                hold("an answer is told: " + line, !line.startsWith("x."));
                program.append(line).append('\n');
            }
        }
        hold("answers are found", held > 30);
        return program.append("    }\n}\n").toString();
    }

    private static String due(String call, String answer) {
        String want = Character.isLetter(answer.charAt(0)) ? "LeatDays." + answer : answer;
        return "due.is(\"" + call + "\", x." + call + ", " + want + ");\n";
    }

    private static void runs(String program) throws Exception {
        Path into = Files.createTempDirectory("readme");
        Path source = into.resolve("Shown.java");
        String caller = "final class Shows { public static void main(String[] a) { "
                + "Due due = new Due(); Shown.run(due); due.end(); } }\n";
        Files.writeString(source, program + caller);
        String path = System.getProperty("java.class.path");
        int compiled = ToolProvider.getSystemJavaCompiler().run(null, null, null, "-cp", path, "-d", into.toString(),
                source.toString());
        hold("the example is compiled", compiled == 0);
        if (compiled == 0) {
            String command = Path.of(System.getProperty("java.home"), "bin", "java").toString();
            String both = path + File.pathSeparator + into;
            hold("the example is as the class answers",
                    new ProcessBuilder(command, "-cp", both, "Shows").inheritIO().start().waitFor() == 0);
        }
        try (Stream<Path> files = Files.list(into)) {
            for (Path file : files.toList()) {
                Files.delete(file);
            }
        }
        Files.delete(into);
    }

    private static void everyTestIsTold(String readme) throws Exception {
        try (Stream<Path> files = Files.list(Path.of("src", "test", "java"))) {
            List<String> names = files.map(f -> f.getFileName().toString().replace(".java", "")).toList();
            for (String name : names) {
                hold("README.md tells of " + name, Pattern.compile("\\b" + name + "\\b").matcher(readme).find());
            }
        }
    }

    private static void everyCallIsNamed(String text) {
        TreeSet<String> named = new TreeSet<>();
        for (Matcher m = Pattern.compile("(?m)^\\| (`.*`) \\|").matcher(text); m.find();) {
            named.addAll(List.of(m.group(1).replace("`", "").split(" ")));
        }
        TreeSet<String> due = new TreeSet<>();
        for (Method m : LeatDays.class.getMethods()) {
            if (m.getDeclaringClass() == LeatDays.class) {
                due.add(m.getName());
            }
        }
        hold("calls named " + named, named.equals(due));
    }

    private static void hold(String what, boolean so) {
        if (!so) {
            wrong++;
            System.out.println("not so: " + what);
        }
    }
}
