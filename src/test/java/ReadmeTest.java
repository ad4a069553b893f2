import java.io.IOException;
import java.lang.reflect.Method;
import java.net.URL;
import java.net.URLClassLoader;
import java.nio.file.Files;
import java.nio.file.Path;
import java.util.ArrayList;
import java.util.List;
import java.util.regex.Matcher;
import java.util.regex.Pattern;
import javax.tools.ToolProvider;

/** README.md is right: its example answers what is written behind each call, and its findings are the document's. */
public final class ReadmeTest {
    private static final Pattern CALL = Pattern.compile("^(x\\.\\w+\\([^;]*\\));\\s+// (-?\\d+):.*$");
    private static int wrong = 0;

    public static void main(String[] args) throws Exception {
        String readme = Files.readString(Path.of(System.getProperty("project.root", "."), "README.md"));
        String document = Files.readString(Path.of(System.getProperty("shared.root", "../shared"), "DOC.md"));
        checkFindings(readme, document);
        List<long[]> answers = run(readme.substring(readme.indexOf("```java\n") + 8));
        for (int k = 0; k < answers.size(); k++) {
            if (answers.get(k)[0] != answers.get(k)[1]) {
                fault("call " + (k + 1) + " answers " + answers.get(k)[0] + ", README says " + answers.get(k)[1]);
            }
        }
        System.out.println(answers.size() + " answers of README.md asked, " + wrong + " wrong");
        if (wrong != 0 || answers.size() < 10) {
            System.exit(1);
        }
    }

    private static void fault(String what) {
        wrong++;
        System.out.println(what);
    }

    private static void checkFindings(String readme, String document) {
        Matcher finding = Pattern.compile("(-100000000[1-9]) ([A-Z]+)").matcher(document);
        int count = 0;
        while (finding.find()) {
            String row = "| " + finding.group(1) + " | " + finding.group(2) + " | " + count + " |";
            if (!readme.contains(row)) {
                fault("README.md has no row " + row);
            }
            count++;
        }
        if (count != 7) {
            fault("the document names " + count + " findings");
        }
    }

    /** What each call of the example answers, with what is written behind it. */
    @SuppressWarnings("unchecked")
    private static List<long[]> run(String example) throws Exception {
        Path made = Files.createTempDirectory("readme");
        try {
            Path source = made.resolve("ReadmeExample.java");
            Files.writeString(source, programOf(example));
            int failed = ToolProvider.getSystemJavaCompiler().run(null, null, null, "-d", made.toString(), "-cp",
                System.getProperty("java.class.path"), source.toString());
            if (failed != 0) {
                fault("the example does not compile");
                return List.of();
            }
            try (URLClassLoader loader = new URLClassLoader(new URL[] {made.toUri().toURL()})) {
                Method method = loader.loadClass("ReadmeExample").getMethod("answers");
                return (List<long[]>) method.invoke(null);
            }
        } finally {
            remove(made);
        }
    }

    private static String programOf(String example) {
        List<String> lines = new ArrayList<>();
        lines.add("import java.util.*;");
        lines.add("public final class ReadmeExample {");
        lines.add("public static List<long[]> answers() {");
        lines.add("List<long[]> all = new ArrayList<>();");
        for (String line : example.substring(0, example.indexOf("```")).split("\n")) {
            Matcher call = CALL.matcher(line);
            lines.add(call.matches() ? "all.add(new long[] {" + call.group(1) + ", " + call.group(2) + "L});" : line);
        }
        lines.add("return all; } }");
        return String.join("\n", lines);
    }

    private static void remove(Path directory) throws IOException {
        try (var files = Files.list(directory)) {
            for (Path file : files.toList()) {
                Files.delete(file);
            }
        }
        Files.delete(directory);
    }
}
