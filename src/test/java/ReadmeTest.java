import java.io.IOException;
import java.lang.reflect.Method;
import java.lang.reflect.Modifier;
import java.net.URL;
import java.net.URLClassLoader;
import java.nio.charset.StandardCharsets;
import java.nio.file.Files;
import java.nio.file.Path;
import java.util.ArrayList;
import java.util.HashMap;
import java.util.List;
import java.util.Map;
import java.util.regex.Matcher;
import java.util.regex.Pattern;

/** What README.md tells a user: its example is run, and its tables are held against the class's face. */
public final class ReadmeTest {
    private static final Pattern ANSWERED =
            Pattern.compile("(?:int (\\w+) = )?(net\\.\\w+\\(.*?\\));\\s*// (-?\\d+|throws \\w+)\\b.*");
    private static final Pattern ROW = Pattern.compile("\\| `(\\w+)\\(([^)]*)\\)` \\|.*\\|([^|]*)\\|");

    private static int wrong = 0;

    private static void fault(String what) {
        wrong++;
        System.out.println(what);
    }

    private static List<String> readme() throws IOException {
        Path file = Path.of(System.getProperty("project.root", "."), "README.md");
        return Files.readAllLines(file, StandardCharsets.UTF_8);
    }

    // ---- the example

    /** A program that makes the example's calls and puts what is not as told into its list of faults. */
    private static String programOf(List<String> lines) {
        StringBuilder code = new StringBuilder();
        boolean inside = false;
        int told = 0;
        code.append("public final class Example {\n    public static final java.util.List<String> FAULTS = ")
                .append("new java.util.ArrayList<>();\n")
                .append("    static void due(String call, Object got, String want) {\n")
                .append("        if (!want.equals(String.valueOf(got))) { FAULTS.add(call + \" answers \" + got); }\n")
                .append("    }\n    public static void run() {\n");
        for (String line : lines) {
            if (line.startsWith("```")) {
                inside = line.equals("```java");
            } else if (inside) {
                Matcher answered = ANSWERED.matcher(line);
                told += answered.matches() ? 1 : 0;
                code.append(answered.matches() ? checked(answered) : line + "\n");
            }
        }
        if (told < 15) {
            fault("the example tells no more than " + told + " answers");
        }
        return code.append("    }\n}\n").toString();
    }

    private static String checked(Matcher line) {
        String call = line.group(2);
        String quoted = "\"" + call + "\"";
        String want = line.group(3);
        if (want.startsWith("throws ")) {
            return "try { due(" + quoted + ", " + call + ", \"" + want + "\"); } catch (RuntimeException e) { due("
                    + quoted + ", \"throws \" + e.getClass().getSimpleName(), \"" + want + "\"); }\n";
        }
        if (line.group(1) == null) {
            return "due(" + quoted + ", " + call + ", \"" + want + "\");\n";
        }
        return "int " + line.group(1) + " = " + call + ";\ndue(" + quoted + ", " + line.group(1) + ", \"" + want
                + "\");\n";
    }

    private static void example(List<String> lines) throws Exception {
        Path folder = Files.createTempDirectory("readme");
        Path source = folder.resolve("Example.java");
        Files.writeString(source, programOf(lines));
        Process javac = new ProcessBuilder("javac", "-d", folder.toString(), "-cp",
                System.getProperty("java.class.path"), source.toString()).inheritIO().start();
        if (javac.waitFor() != 0) {
            fault("the example does not compile");
        } else {
            try (URLClassLoader loader = new URLClassLoader(new URL[] {folder.toUri().toURL()})) {
                Class<?> example = loader.loadClass("Example");
                example.getMethod("run").invoke(null);
                for (Object told : (List<?>) example.getField("FAULTS").get(null)) {
                    fault("the example: " + told);
                }
            }
        }
        for (String name : new String[] {"Example.java", "Example.class"}) {
            Files.deleteIfExists(folder.resolve(name));
        }
        Files.deleteIfExists(folder);
    }

    // ---- the tables

    private static String refusedBy(Method method) {
        List<String> names = new ArrayList<>();
        for (Class<?> type : method.getExceptionTypes()) {
            String name = type.getSimpleName();
            names.add(name.equals("IndexOutOfBoundsException") ? "Index"
                    : name.equals("IllegalArgumentException") ? "Argument" : "State");
        }
        return names.toString();
    }

    private static String refusalsOf(String cell) {
        List<String> names = new ArrayList<>();
        Matcher name = Pattern.compile("(Index|Argument|State):").matcher(cell);
        while (name.find()) {
            names.add(name.group(1));
        }
        return names.toString();
    }

    private static void tables(List<String> lines) {
        Map<String, Matcher> rows = new HashMap<>();
        for (String line : lines) {
            Matcher row = ROW.matcher(line);
            if (row.matches() && rows.put(row.group(1), row) != null) {
                fault("told twice: " + row.group(1));
            }
        }
        for (Method method : Payoutnet.class.getDeclaredMethods()) {
            if (!Modifier.isPublic(method.getModifiers())) {
                continue;
            }
            Matcher row = rows.remove(method.getName());
            if (row == null) {
                fault("README.md does not tell of " + method.getName());
                continue;
            }
            int arguments = row.group(2).isEmpty() ? 0 : row.group(2).split(",").length;
            if (arguments != method.getParameterCount()) {
                fault("README.md tells " + arguments + " arguments of " + method.getName());
            }
            if (!refusalsOf(row.group(3)).equals(refusedBy(method))) {
                fault("README.md tells that " + method.getName() + " refuses " + row.group(3).strip());
            }
        }
        if (!rows.isEmpty()) {
            fault("README.md tells of " + rows.keySet());
        }
    }

    private static void testsAreNamed(List<String> lines) throws IOException {
        Path folder = Path.of(System.getProperty("project.root", "."), "src/test/java");
        try (var files = Files.list(folder)) {
            for (Path file : files.toList()) {
                String name = file.getFileName().toString().replace(".java", "");
                if (lines.stream().noneMatch(line -> line.startsWith("- `" + name + "`:"))) {
                    fault("README.md does not tell of the test " + name);
                }
            }
        }
    }

    public static void main(String[] args) throws Exception {
        List<String> lines = readme();
        example(lines);
        tables(lines);
        testsAreNamed(lines);
        System.out.println(wrong == 0 ? "README.md is right" : wrong + " faults");
        if (wrong != 0) {
            System.exit(1);
        }
    }
}
