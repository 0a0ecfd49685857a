import java.io.IOException;
import java.lang.reflect.Method;
import java.lang.reflect.Modifier;
import java.nio.file.DirectoryStream;
import java.nio.file.Files;
import java.nio.file.Path;
import java.util.regex.Matcher;
import java.util.regex.Pattern;
import javax.tools.ToolProvider;

/**
 * What README.md says, read where the tests are started: its examples are put into one method, in
 * which a line whose comment begins with an answer becomes a check of that answer.
 */
public final class LeafSignerReadme {
    private static final Path README = Path.of("README.md");
    private static final Path TESTS = Path.of("src/test/java");
    private static final Pattern ANSWERED = Pattern.compile("(\\S.*);\\s+// (-?\\d+|NONE|USED):.*");

    public static void main(String[] args) throws IOException, ReflectiveOperationException {
        examplesAnswerAsTheySay();
        eachCallIsNamed();
        eachTestIsNamed();
        Due.end();
    }

    private static void examplesAnswerAsTheySay() throws IOException, ReflectiveOperationException {
        Due.sentence("README: how to use the class, the examples");
        // Beside this class, so that one loader takes both and the examples may use Due.
        Path classes = Path.of(System.getProperty("java.class.path"));
        Path source = classes.resolve("ReadmeExamples.java");
        Files.writeString(source, examplesAsChecks());
        int failed = ToolProvider.getSystemJavaCompiler().run(null, null, null,
                "-cp", classes.toString(), "-d", classes.toString(), source.toString());
        if (failed != 0) {
            Due.tellWrong("they do not compile");
            return;
        }
        Method run = Class.forName("ReadmeExamples").getDeclaredMethod("run");
        run.invoke(null);
    }

    private static String examplesAsChecks() throws IOException {
        StringBuilder checks = new StringBuilder("final class ReadmeExamples {\n    static void run() {\n");
        boolean inExample = false;
        int answers = 0;
        for (String line : Files.readAllLines(README)) {
            if (line.startsWith("```")) {
                inExample = line.equals("```java");
            } else if (inExample) {
                Matcher answered = ANSWERED.matcher(line);
                answers += answered.matches() ? 1 : 0;
                checks.append("        ").append(answered.matches() ? asCheck(answered) : line).append('\n');
            }
        }
        // Examples in a form that is not found here would pass without a word.
        if (answers < 10) {
            Due.tellWrong("only " + answers + " examples tell an answer");
        }
        return checks.append("    }\n}\n").toString();
    }

    private static String asCheck(Matcher answered) {
        String call = answered.group(1);
        String answer = answered.group(2);
        boolean isNumber = !Character.isLetter(answer.charAt(0));
        return "Due.due(\"" + call + "\", " + call + ", " + (isNumber ? "" : "LeafSigner.") + answer + ");";
    }

    private static void eachCallIsNamed() throws IOException {
        Due.sentence("README: how to use the class, each call");
        String readme = Files.readString(README);
        for (Method method : LeafSigner.class.getDeclaredMethods()) {
            if (Modifier.isPublic(method.getModifiers()) && !readme.contains(method.getName() + "(")) {
                Due.tellWrong(method.getName() + " is not named");
            }
        }
    }

    private static void eachTestIsNamed() throws IOException {
        Due.sentence("README: how to run the tests");
        String readme = Files.readString(README);
        if (!readme.contains(".ci/run")) {
            Due.tellWrong(".ci/run is not named");
        }
        try (DirectoryStream<Path> tests = Files.newDirectoryStream(TESTS, "*.java")) {
            for (Path test : tests) {
                if (!readme.contains(TESTS + "/" + test.getFileName())) {
                    Due.tellWrong(test + " is not named");
                }
            }
        }
    }
}
