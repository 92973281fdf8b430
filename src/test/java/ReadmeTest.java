import java.io.IOException;
import java.lang.reflect.Method;
import java.lang.reflect.Modifier;
import java.nio.charset.StandardCharsets;
import java.nio.file.DirectoryStream;
import java.nio.file.Files;
import java.nio.file.Path;

/** README.md: what it says of the class and of the tests is so; run from the project's folder. */
public final class ReadmeTest {
    private static final String TESTS = "src/test/java";

    public static void main(String[] args) throws IOException, InterruptedException {
        String page = Files.readString(Path.of("README.md"));
        Check.due("what the program of the page prints", block(page, "text"), printed(block(page, "java")));
        everyCallIsNamed(page);
        everyTestIsNamed(page);
        theCommandsOfTheTextsAreAsTheCalls();
        Check.end("ReadmeTest");
    }

    /** The first block of the page in this language. */
    private static String block(String page, String language) {
        String opening = "```" + language + "\n";
        int begin = page.indexOf(opening);
        int end = page.indexOf("```", begin + opening.length());
        Check.due("a block of " + language + " in the page", true, begin >= 0 && end >= 0);
        return begin < 0 || end < 0 ? "" : page.substring(begin + opening.length(), end);
    }

    private static String printed(String program) throws IOException, InterruptedException {
        Path folder = Files.createTempDirectory("readme");
        Path file = folder.resolve("Evening.java");
        try {
            Files.writeString(file, program);
            Path java = Path.of(System.getProperty("java.home"), "bin", "java");
            Process run = new ProcessBuilder(java.toString(), "-cp", System.getProperty("java.class.path"),
                    file.toString()).redirectErrorStream(true).start();
            String printed = new String(run.getInputStream().readAllBytes(), StandardCharsets.UTF_8);
            Check.due("exit code of the program of the page", 0, run.waitFor());
            return printed.replace("\r\n", "\n");
        } finally {
            Files.deleteIfExists(file);
            Files.deleteIfExists(folder);
        }
    }

    private static void everyCallIsNamed(String page) {
        for (Method call : ReelConsole.class.getDeclaredMethods()) {
            if (Modifier.isPublic(call.getModifiers())) {
                Check.due("the page names " + call.getName(), true, page.contains("`" + call.getName() + "`"));
            }
        }
    }

    private static void everyTestIsNamed(String page) throws IOException {
        try (DirectoryStream<Path> tests = Files.newDirectoryStream(Path.of(TESTS), "*.java")) {
            for (Path test : tests) {
                String name = test.getFileName().toString().replace(".java", "");
                Check.due("the page names the test " + name, true, page.contains("| `" + name + "` |"));
            }
        }
    }

    private static void theCommandsOfTheTextsAreAsTheCalls() {
        sameAs("r1*5", x -> x.submit(ReelConsole.READ, 1, 5, 0));
        sameAs("w1*5", x -> x.submit(ReelConsole.WRITE, 1, 5, 0));
        sameAs("c7*5", x -> x.submit(ReelConsole.CREATE, 7, 5, 0));
        sameAs("r1*5!3", x -> x.submit(ReelConsole.READ, 1, 5, 3));
        sameAs("t7", x -> x.pass(7));
        sameAs("d", ReelConsole::nextDay);
    }

    private static void sameAs(String command, Check.Steps call) {
        ReelConsole typed = Check.after(x -> Check.type(x, command));
        Check.due("runText of " + command, 1, typed.runText());
        Check.due("the room after " + command, Check.room(Check.after(call)), Check.room(typed));
    }
}
