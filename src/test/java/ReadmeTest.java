import java.io.ByteArrayOutputStream;
import java.io.IOException;
import java.io.InputStream;
import java.lang.reflect.Method;
import java.lang.reflect.Modifier;
import java.nio.charset.StandardCharsets;
import java.nio.file.DirectoryStream;
import java.nio.file.Files;
import java.nio.file.Path;
import java.util.ArrayList;
import java.util.List;
import java.util.regex.Matcher;
import java.util.regex.Pattern;
import javax.tools.ToolProvider;

/** README.md holds: its example prints what stands behind its calls, and it names every call and test. */
public final class ReadmeTest {
    private static final Pattern CALL = Pattern.compile("\\s+show\\(desk\\.\\w+\\([-\\d, ]*\\)\\);\\s+// (-?\\d+)(:.*)?");
    private static int wrong;

    private ReadmeTest() {
    }

    private static void say(String fault) {
        wrong++;
        System.out.println("ReadmeTest: " + fault);
    }

    private static String example(String readme) {
        Matcher block = Pattern.compile("```java\\n(.*?)```", Pattern.DOTALL).matcher(readme);
        if (!block.find()) {
            say("there is no example");
            return "";
        }
        String text = block.group(1);
        if (block.find()) say("there is a second example, which is not run");
        return text;
    }

    /** The lines of calls, each with the answer that stands behind it. */
    private static List<String> calls(String example) {
        List<String> found = new ArrayList<>();
        for (String line : example.split("\n")) {
            if (!line.contains("desk.")) continue;
            if (CALL.matcher(line).matches()) found.add(line.trim());
            else say("no answer stands behind " + line.trim());
        }
        return found;
    }

    private static String[] printed(String example) throws IOException, InterruptedException {
        Path dir = Files.createTempDirectory("readme");
        Path source = dir.resolve("Example.java");
        Files.writeString(source, example);
        try {
            ByteArrayOutputStream faults = new ByteArrayOutputStream();
            int rc = ToolProvider.getSystemJavaCompiler().run(null, faults, faults, "-Xlint:all", "-d", dir.toString(),
                "src/main/java/VacuumDesk.java", source.toString());
            if (rc != 0) say("the example does not compile: " + faults);
            return rc != 0 ? new String[0] : run(dir);
        } finally {
            deleteAll(dir);
        }
    }

    private static String[] run(Path dir) throws IOException, InterruptedException {
        String java = Path.of(System.getProperty("java.home"), "bin", "java").toString();
        Process process = new ProcessBuilder(java, "-cp", dir.toString(), "Example").redirectErrorStream(true).start();
        try (InputStream out = process.getInputStream()) {
            String text = new String(out.readAllBytes(), StandardCharsets.UTF_8);
            if (process.waitFor() != 0) say("the example ends with " + process.exitValue());
            return text.split("\\R");
        }
    }

    private static void deleteAll(Path dir) throws IOException {
        try (DirectoryStream<Path> files = Files.newDirectoryStream(dir)) {
            for (Path file : files) Files.delete(file);
        }
        Files.delete(dir);
    }

    private static void compare(List<String> calls, String[] printed) {
        if (calls.size() < 20 || calls.size() != printed.length) {
            say(calls.size() + " calls stand in the example, " + printed.length + " answers were printed");
            return;
        }
        for (int i = 0; i < printed.length; i++) {
            Matcher m = CALL.matcher(" " + calls.get(i));
            if (!m.matches() || !m.group(1).equals(printed[i])) say(calls.get(i) + " printed " + printed[i]);
        }
    }

    private static void names(String readme) throws IOException {
        String table = readme.substring(Math.max(0, readme.indexOf("### The calls")));
        for (Method m : VacuumDesk.class.getDeclaredMethods())
            if (Modifier.isPublic(m.getModifiers()) && !table.contains("`" + m.getName() + "`")) say(m.getName() + " is not named");
        try (DirectoryStream<Path> tests = Files.newDirectoryStream(Path.of("src/test/java"), "*Test.java")) {
            for (Path test : tests) {
                String name = test.getFileName().toString().replace(".java", "");
                if (!readme.contains("`" + name + "`")) say(name + " is not named");
            }
        }
    }

    public static void main(String[] args) throws Exception {
        String readme = Files.readString(Path.of("README.md"));
        String example = example(readme);
        List<String> calls = calls(example);
        compare(calls, printed(example));
        names(readme);
        System.out.println("ReadmeTest: " + calls.size() + " answers of the example asked, " + wrong + " wrong");
        if (wrong != 0) System.exit(1);
    }
}
