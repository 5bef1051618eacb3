import java.io.IOException;
import java.lang.reflect.Method;
import java.lang.reflect.Modifier;
import java.net.URL;
import java.net.URLClassLoader;
import java.nio.file.DirectoryStream;
import java.nio.file.Files;
import java.nio.file.Path;
import java.util.ArrayList;
import java.util.List;
import java.util.regex.Matcher;
import java.util.regex.Pattern;
import javax.tools.ToolProvider;

/** What README.md says of the class and of its tests holds. It is run in the project's directory. */
public final class ReadmeTest {
    /** A line of the example: a name for the answer (or none), the call, the answer it tells. */
    private static final Pattern LINE = Pattern.compile("(int \\w+ = )?(gym\\..*\\)); +// ([^: ]+)(:.*)?");
    private static final String HEAD = "public final class Example {\n"
            + "    public static void run(java.util.List<Object> answers) {\n";
    private static final String END = "    }\n}\n";

    private static final Check check = new Check("ReadmeTest");

    public static void main(String[] args) throws Exception {
        String page = Files.readString(Path.of("README.md"));
        namesEveryCall(page);
        namesEveryTest(page);
        exampleAnswersAsTold(page);
        check.isTrue(".ci/run can be run", Files.isExecutable(Path.of(".ci/run")));
        check.end();
    }

    private static void namesEveryCall(String page) {
        for (Method method : SentenceGym.class.getDeclaredMethods()) {
            if (Modifier.isPublic(method.getModifiers())) {
                check.isTrue("README.md names " + method.getName(), page.contains("`" + method.getName() + "`"));
            }
        }
    }

    private static void namesEveryTest(String page) throws IOException {
        try (DirectoryStream<Path> tests = Files.newDirectoryStream(Path.of("src/test/java"), "*.java")) {
            for (Path test : tests) {
                String name = test.getFileName().toString().replace(".java", "");
                check.isTrue("README.md names " + name, page.contains("`" + name + "`"));
            }
        }
    }

    private static void exampleAnswersAsTold(String page) throws Exception {
        int start = page.indexOf("```java\n") + "```java\n".length();
        StringBuilder program = new StringBuilder(HEAD);
        List<String> calls = new ArrayList<>();
        List<String> due = new ArrayList<>();
        for (String line : page.substring(start, page.indexOf("```", start)).split("\n")) {
            Matcher told = LINE.matcher(line);
            if (told.matches()) {
                calls.add(told.group(2));
                due.add(told.group(3));
                program.append(keepingAnswer(told.group(1), told.group(2)));
            } else {
                check.equal("README.md: a line without an answer", line, "SentenceGym gym = new SentenceGym();");
                program.append(line).append('\n');
            }
        }
        List<Object> answers = answersOf(program.append(END).toString());
        check.equal("README.md: answers", answers.size(), due.size());
        for (int i = 0; i < answers.size() && i < due.size(); i++) {
            check.equal("README.md: " + calls.get(i), answers.get(i).toString(), due.get(i));
        }
    }

    private static String keepingAnswer(String named, String call) {
        if (named == null) {
            return "answers.add(" + call + ");\n";
        }
        String name = named.substring("int ".length(), named.indexOf(" ="));
        return named + call + ";\nanswers.add(" + name + ");\n";
    }

    /** Compiles a program beside the class, runs it, and gives what it put into its list. */
    private static List<Object> answersOf(String program) throws Exception {
        List<Object> answers = new ArrayList<>();
        Path directory = Files.createTempDirectory("readme");
        Path source = Files.writeString(directory.resolve("Example.java"), program);
        Path compiled = directory.resolve("Example.class");
        int code = ToolProvider.getSystemJavaCompiler().run(null, null, null, "-cp",
                System.getProperty("java.class.path"), "-d", directory.toString(), source.toString());
        check.equal("README.md: compiling the example", code, 0);
        if (code == 0) {
            try (URLClassLoader loader = new URLClassLoader(new URL[] {directory.toUri().toURL()})) {
                loader.loadClass("Example").getMethod("run", List.class).invoke(null, answers);
            }
        }
        Files.deleteIfExists(compiled);
        Files.delete(source);
        Files.delete(directory);
        return answers;
    }
}
