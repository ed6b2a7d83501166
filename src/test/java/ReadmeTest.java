import java.io.ByteArrayOutputStream;
import java.io.IOException;
import java.io.PrintStream;
import java.nio.charset.StandardCharsets;
import java.nio.file.Files;
import java.nio.file.Path;
import java.net.URL;
import java.net.URLClassLoader;
import java.util.regex.Matcher;
import java.util.regex.Pattern;
import javax.tools.ToolProvider;

/** README.md is right: its example prints what it says, and its table has each call of the face. */
public final class ReadmeTest {
    private ReadmeTest() {
    }

    public static void main(String[] args) throws Exception {
        Answers answers = new Answers();
        String readme = Files.readString(Path.of("README.md"));
        answers.due("the example", block(readme, "text"), printed(block(readme, "java")));
        for (String head : Document.heads()) {
            lookAtCall(readme, head, answers);
        }
        answers.end();
    }

    private static String block(String readme, String language) {
        Matcher matcher = Pattern.compile("```" + language + "\n(.*?)```", Pattern.DOTALL).matcher(readme);
        return matcher.find() ? matcher.group(1) : "";
    }

    private static String printed(String program) throws Exception {
        Path folder = Files.createTempDirectory("readme");
        Path file = folder.resolve("Example.java");
        PrintStream before = System.out;
        ByteArrayOutputStream bytes = new ByteArrayOutputStream();
        try {
            Files.writeString(file, program);
            compile(folder, file);
            System.setOut(new PrintStream(bytes, true, StandardCharsets.UTF_8));
            run(folder);
        } finally {
            System.setOut(before);
            Files.deleteIfExists(folder.resolve("Example.class"));
            Files.deleteIfExists(file);
            Files.deleteIfExists(folder);
        }
        return bytes.toString(StandardCharsets.UTF_8);
    }

    private static void compile(Path folder, Path file) {
        int code = ToolProvider.getSystemJavaCompiler().run(null, null, null, "-cp",
                System.getProperty("java.class.path"), "-d", folder.toString(), file.toString());
        if (code != 0) {
            throw new AssertionError("README.md's example does not compile");
        }
    }

    private static void run(Path folder) throws IOException, ReflectiveOperationException {
        try (URLClassLoader loader = new URLClassLoader(new URL[] {folder.toUri().toURL()})) {
            loader.loadClass("Example").getMethod("main", String[].class).invoke(null, (Object) new String[0]);
        }
    }

    /** The row of a call names it with its parameters, and all that it throws in the right order. */
    private static void lookAtCall(String readme, String head, Answers answers) {
        String call = head.replaceAll(" throws .*", "").replaceAll("\\w+ (?=\\w)", "");
        if (call.equals("GeneBook()")) {
            return;
        }
        Matcher row = Pattern.compile("(?m)^\\| `" + Pattern.quote(call) + "` \\|.*\\|(.*)\\|$").matcher(readme);
        boolean isThere = row.find();
        answers.due("README.md has " + call, true, isThere);
        StringBuilder thrown = new StringBuilder();
        Matcher names = Pattern.compile("`(\\w+Exception)`").matcher(isThere ? row.group(1) : "");
        while (names.find()) {
            thrown.append(thrown.length() == 0 ? "" : ", ").append(names.group(1));
        }
        String due = head.contains(" throws ") ? head.replaceAll(".* throws ", "") : "";
        answers.due("what README.md lets " + call + " throw", due, thrown.toString());
    }
}
