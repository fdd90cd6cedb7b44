import java.io.IOException;
import java.nio.charset.StandardCharsets;
import java.nio.file.DirectoryStream;
import java.nio.file.Files;
import java.nio.file.Path;
import java.util.ArrayList;
import java.util.List;
import java.util.Set;
import java.util.TreeSet;
import java.util.regex.Matcher;
import java.util.regex.Pattern;

/** What README.md says holds when it is done as written there. */
public final class ReadmeTest {
    private static final String ALL_TESTS = ".ci/run\n";
    private static final Pattern CALL_ROW = Pattern.compile("(?m)^\\| `((\\w+)\\([^`]*\\))` \\| (-?\\d+) \\| (\\d) \\| \\S.* \\|$");
    private static final Pattern ANY_ROW = Pattern.compile("(?m)^\\| .* \\| .* \\| .* \\| .* \\|$");
    /** The heading and the line below it. */
    private static final int ROWS_WITHOUT_A_CALL = 2;
    private static final int ALL_COUNTS = 11;

    private static final Due due = new Due();

    public static void main(String[] args) throws IOException, InterruptedException {
        String page = Files.readString(Path.of("README.md"));
        program(page);
        commands(page);
        calls(page);
        namesOfTests(page);
        due.finish();
    }

    private static void program(String page) throws IOException {
        List<String> programs = blocksOf("java", page);
        due.is("programs on the page", programs.size(), 1);
        String file = Files.readString(Path.of("src/example/java/Evening.java"));
        holds("the program on the page is the one in its file", programs.contains(file));
    }

    private static void commands(String page) throws IOException, InterruptedException {
        List<String> scripts = blocksOf("sh", page);
        List<String> prints = blocksOf("text", page);
        due.is("scripts on the page", scripts.size(), 3);
        due.is("prints on the page", prints.size(), 1);
        for (String script : scripts) {
            if (script.equals(ALL_TESTS)) {
                // This test is one of those that it runs, so running it here would never end.
                holds(".ci/run can be run", Files.isExecutable(Path.of(".ci/run")));
            } else {
                String printed = run(script);
                boolean isTest = script.contains("PromisesTest");
                holds("these print what the page says:\n" + script + "but print:\n" + printed,
                    isTest ? printed.matches("all \\d+ answers are as due\n") : prints.contains(printed));
            }
        }
        holds("the page tells how all tests are run", scripts.contains(ALL_TESTS));
    }

    /** Every row of the table of calls, one behind the other on one new object. */
    private static void calls(String page) {
        Desk desk = new Desk();
        Set<String> asked = new TreeSet<>();
        Set<String> counts = new TreeSet<>();
        Matcher row = CALL_ROW.matcher(page);
        int rows = 0;
        while (row.find()) {
            rows++;
            String call = row.group(1);
            due.is(call, desk.ask(call), Integer.parseInt(row.group(3)));
            due.is("status() behind " + call, desk.ask("status()"), Integer.parseInt(row.group(4)));
            asked.add(row.group(2));
            if (row.group(2).equals("count")) {
                counts.add(call);
            }
        }
        due.is("rows that can be read as calls", rows, ANY_ROW.matcher(page).results().count() - ROWS_WITHOUT_A_CALL);
        due.is("counts on the page", counts.size(), ALL_COUNTS);
        Set<String> face = publicMethods();
        holds("the page asks " + asked + ", the face is " + face, asked.equals(face));
    }

    private static Set<String> publicMethods() {
        Set<String> names = new TreeSet<>();
        for (java.lang.reflect.Method method : LampLoft.class.getDeclaredMethods()) {
            if (java.lang.reflect.Modifier.isPublic(method.getModifiers())) {
                names.add(method.getName());
            }
        }
        return names;
    }

    private static void namesOfTests(String page) throws IOException {
        Set<String> told = new TreeSet<>();
        Matcher item = Pattern.compile("(?m)^- `(\\w+)`: ").matcher(page);
        while (item.find()) {
            told.add(item.group(1) + ".java");
        }
        Set<String> files = new TreeSet<>();
        try (DirectoryStream<Path> tests = Files.newDirectoryStream(Path.of("src/test/java"), "*Test.java")) {
            for (Path test : tests) {
                files.add(test.getFileName().toString());
            }
        }
        holds("the page tells of the tests " + told + ", there are " + files, told.equals(files));
    }

    private static List<String> blocksOf(String kind, String page) {
        List<String> blocks = new ArrayList<>();
        Matcher block = Pattern.compile("(?s)\n```" + kind + "\n(.*?)```\n").matcher(page);
        while (block.find()) {
            blocks.add(block.group(1));
        }
        return blocks;
    }

    /**
     * What the script prints; its first command that fails ends it. Complaints go where this test's own go: some
     * machines have java say there what options it was given.
     */
    private static String run(String script) throws IOException, InterruptedException {
        Process process = new ProcessBuilder("sh", "-e", "-c", script)
            .redirectError(ProcessBuilder.Redirect.INHERIT).start();
        String printed = new String(process.getInputStream().readAllBytes(), StandardCharsets.UTF_8);
        due.is("exit code of:\n" + script, process.waitFor(), 0);
        return printed;
    }

    private static void holds(String what, boolean is) {
        due.is(what, is ? 1 : 0, 1);
    }
}
