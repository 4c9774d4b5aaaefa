import java.lang.reflect.Method;
import java.lang.reflect.Modifier;
import java.net.URL;
import java.net.URLClassLoader;
import java.nio.file.Files;
import java.nio.file.Path;
import java.util.ArrayList;
import java.util.List;
import java.util.regex.Matcher;
import java.util.regex.Pattern;
import javax.tools.ToolProvider;

/**
 * README.md says how to use the class as it stands: its block of Java compiles, and answers as its comments tell; every
 * call, refusal and test is named. Run from the project's folder.
 */
public final class ReadmeTest {
    private static final Check check = new Check("ReadmeTest");
    private static final Pattern ANSWERED = Pattern.compile("^(x\\.[A-Za-z]+\\(.*\\)); +// (-?[0-9]+|[A-Z]+): .*$");
    private static final int FEWEST_ANSWERS = 20;

    private final List<String> calls = new ArrayList<>();
    private final List<Long> dues = new ArrayList<>();

    public static void main(String[] args) throws Exception {
        String readme = Files.readString(Path.of("README.md"));
        namesEveryCall(readme);
        namesEveryTest(readme);
        Matcher block = Pattern.compile("(?s)```java\n(.*?)```").matcher(readme);
        check.holds("there is a block of Java", block.find());
        new ReadmeTest().blockAnswersAsTold(block.group(1));
        check.end();
    }

    private static void namesEveryCall(String readme) {
        for (Method m : BarrelTaps.class.getDeclaredMethods()) {
            if (Modifier.isPublic(m.getModifiers())) {
                check.holds("README.md names " + m.getName(), readme.contains("`" + m.getName() + "`"));
            }
        }
        for (String name : new String[] {"UNKNOWN", "OUTSIDE", "STATE", "FULL", "LOST"}) {
            check.holds("README.md names " + name, readme.contains("`" + name + "`"));
        }
    }

    private static void namesEveryTest(String readme) throws Exception {
        try (var files = Files.list(Path.of("src/test/java"))) {
            for (Path file : files.toList()) {
                String name = file.getFileName().toString().replace(".java", "");
                check.holds("README.md names " + name, !name.endsWith("Test") || readme.contains("`" + name + "`"));
            }
        }
        Matcher named = Pattern.compile("`([A-Za-z]+Test)`").matcher(readme);
        while (named.find()) {
            check.holds("there is a " + named.group(1),
                Files.exists(Path.of("src/test/java", named.group(1) + ".java")));
        }
    }

    private void blockAnswersAsTold(String block) throws Exception {
        StringBuilder body = new StringBuilder();
        for (String line : block.split("\n")) {
            body.append(keepingAnswer(line)).append('\n');
        }
        check.holds("answers are told: " + dues.size(), dues.size() >= FEWEST_ANSWERS);
        List<Long> answers = runOf(body.toString());
        check.due("answers given", answers.size(), dues.size());
        for (int k = 0; k < Math.min(answers.size(), dues.size()); k++) {
            check.due(calls.get(k), answers.get(k), dues.get(k));
        }
    }

    /** A call whose comment tells an answer becomes one whose answer is kept; other lines stay. */
    private String keepingAnswer(String line) throws Exception {
        Matcher m = ANSWERED.matcher(line);
        if (!m.matches()) {
            return line;
        }
        String due = m.group(2);
        boolean named = Character.isLetter(due.charAt(0));
        calls.add(m.group(1));
        dues.add(named ? ((Number) BarrelTaps.class.getField(due).get(null)).longValue() : Long.valueOf(due));
        return "answers.add((long) " + m.group(1) + ");";
    }

    private static List<Long> runOf(String body) throws Exception {
        Path dir = Files.createTempDirectory("readme");
        Path source = dir.resolve("Block.java");
        Path compiled = dir.resolve("Block.class");
        List<Long> answers = new ArrayList<>();
        Files.writeString(source, "public final class Block {\n"
            + "public static void run(java.util.List<Long> answers) {\n" + body + "}\n}\n");
        int code = ToolProvider.getSystemJavaCompiler().run(null, null, null, "--release", "17", "-proc:none",
            "-cp", System.getProperty("java.class.path"), "-d", dir.toString(), source.toString());
        check.due("javac of the block", code, 0);
        if (code == 0) {
            try (URLClassLoader loader = new URLClassLoader(new URL[] {dir.toUri().toURL()})) {
                loader.loadClass("Block").getMethod("run", List.class).invoke(null, answers);
            }
        }
        Files.deleteIfExists(compiled);
        Files.delete(source);
        Files.delete(dir);
        return answers;
    }
}
