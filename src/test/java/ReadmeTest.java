import java.io.File;
import java.io.IOException;
import java.nio.charset.StandardCharsets;
import java.nio.file.Path;
import java.util.ArrayList;
import java.util.List;
import java.util.regex.Matcher;
import java.util.regex.Pattern;

/** The example of README.md works as it stands there, and its words of the tests hold; run from the project's root. */
public final class ReadmeTest {
    private static final Path MAIN = Path.of("src", "main", "java", "Branchwork.java");
    private static final Path TESTS = Path.of("src", "test", "java");

    private static final Check CHECK = new Check("ReadmeTest");

    public static void main(String[] args) throws IOException, InterruptedException {
        String readme = java.nio.file.Files.readString(Path.of("README.md"));
        exampleWorks(readme);
        allCallsAreNamed(readme);
        testsAreNamed(readme);
        CHECK.end();
    }

    private static void exampleWorks(String readme) throws IOException, InterruptedException {
        List<String> programs = blocks(readme, "java");
        List<String> commands = blocks(readme, "sh");
        List<String> printed = blocks(readme, "text");
        CHECK.due("programs in the README", 1, programs::size);
        CHECK.due("outputs in the README", 1, printed::size);
        CHECK.due("blocks of commands in the README", 2, commands::size);
        if (CHECK.isWrong()) {
            return;
        }
        CHECK.compare("the command for the tests", ".ci/run\n", commands.get(1));
        CHECK.holds(".ci/run can be run", java.nio.file.Files.isExecutable(Path.of(".ci", "run")));
        Path root = java.nio.file.Files.createTempDirectory("readme");
        try {
            Path copy = root.resolve(MAIN);
            java.nio.file.Files.createDirectories(copy.getParent());
            java.nio.file.Files.copy(MAIN, copy);
            java.nio.file.Files.writeString(root.resolve("Example.java"), programs.get(0));
            CHECK.compare("the example", printed.get(0), outputOf(root, commands.get(0)));
        } finally {
            delete(root.toFile());
        }
    }

    private static List<String> blocks(String readme, String kind) {
        List<String> found = new ArrayList<>();
        Matcher block = Pattern.compile("^```" + kind + "\n(.*?)^```$", Pattern.MULTILINE | Pattern.DOTALL)
                .matcher(readme);
        while (block.find()) {
            found.add(block.group(1));
        }
        return found;
    }

    /** What the commands print, errors too; and the exit code, if it is not 0. */
    private static String outputOf(Path root, String commands) throws IOException, InterruptedException {
        Process run = new ProcessBuilder("sh", "-ec", commands).directory(root.toFile())
                .redirectErrorStream(true).start();
        run.getOutputStream().close();
        String output = new String(run.getInputStream().readAllBytes(), StandardCharsets.UTF_8);
        int code = run.waitFor();
        return code == 0 ? output : output + "exit code " + code;
    }

    private static void delete(File file) {
        File[] inside = file.listFiles();
        if (inside != null) {
            for (File each : inside) {
                delete(each);
            }
        }
        file.delete();
    }

    private static void allCallsAreNamed(String readme) {
        for (java.lang.reflect.Method method : Branchwork.class.getMethods()) {
            if (method.getDeclaringClass() == Branchwork.class) {
                CHECK.holds(method.getName() + " is named", readme.contains("`" + method.getName() + "`"));
            }
        }
    }

    private static void testsAreNamed(String readme) {
        String[] names = TESTS.toFile().list();
        CHECK.holds("there are tests", names != null && names.length > 0);
        for (String name : names == null ? new String[0] : names) {
            if (name.endsWith("Test.java")) {
                String test = name.substring(0, name.length() - ".java".length());
                CHECK.holds(test + " is named", readme.contains("`" + test + "`"));
            }
        }
        Matcher named = Pattern.compile("`(\\w+Test)`").matcher(readme);
        while (named.find()) {
            CHECK.holds(named.group(1) + " is there", TESTS.resolve(named.group(1) + ".java").toFile().isFile());
        }
    }
}
