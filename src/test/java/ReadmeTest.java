import java.io.IOException;
import java.lang.reflect.Method;
import java.lang.reflect.Modifier;
import java.nio.charset.StandardCharsets;
import java.nio.file.Files;
import java.nio.file.Path;
import java.nio.file.StandardCopyOption;
import java.util.ArrayList;
import java.util.List;
import java.util.TreeSet;
import java.util.regex.Matcher;
import java.util.regex.Pattern;
import java.util.stream.Stream;

/** What README.md shows: it compiles beside the class, and the answers are those that README.md says. */
public final class ReadmeTest {
    private static final Path PAGE = Path.of("README.md");
    private static final Path SOURCE = Path.of("src/main/java/ChoirNotes.java");
    private static final Path TESTS = Path.of("src/test/java");
    /** Stands for the reader's folder, so that nothing is written into the project's own. */
    private static final Path FOLDER = Path.of("out/readme");

    private static final Pattern BLOCK = Pattern.compile("(?ms)^```(\\w+)\n(.*?)^```$");
    private static final Pattern PROGRAM = Pattern.compile("public class (\\w+) \\{");
    private static final Pattern ANSWERED =
            Pattern.compile("(int \\w+ = )?(book\\.(\\w+)\\([^;]*\\)); *// -> ([^ ,]+)(, .*)?");
    private static final Pattern REFUSED = Pattern.compile("(book\\.\\w+\\([^;]*\\)); *// throws (\\w+)(, .*)?");
    private static final String NEW_BOOK = "ChoirNotes book = new ChoirNotes();";

    private final List<String[]> blocks = new ArrayList<>();
    private final List<String> lines = new ArrayList<>();

    private ReadmeTest(String page) {
        Matcher block = BLOCK.matcher(page);
        while (block.find()) {
            blocks.add(new String[] {block.group(1), block.group(2)});
        }
        for (String[] each : blocks) {
            if (each[0].equals("java") && !PROGRAM.matcher(each[1]).find()) {
                lines.addAll(each[1].lines().toList());
            }
        }
    }

    public static void main(String[] args) throws IOException, InterruptedException {
        String page = Files.readString(PAGE);
        Files.createDirectories(FOLDER.resolve(SOURCE).getParent());
        Files.copy(SOURCE, FOLDER.resolve(SOURCE), StandardCopyOption.REPLACE_EXISTING);
        ReadmeTest test = new ReadmeTest(page);
        test.programs();
        test.linesCompileAsShown();
        test.linesAnswerAsShown();
        test.callsAreShown();
        testsAreShown(page);
        Check.finish();
    }

    /** Each whole program, with the commands that the page shows behind it and what it prints. */
    private void programs() throws IOException, InterruptedException {
        int found = 0;
        for (int i = 0; i < blocks.size(); i++) {
            Matcher program = PROGRAM.matcher(blocks.get(i)[1]);
            if (blocks.get(i)[0].equals("java") && program.find()) {
                found++;
                String name = program.group(1);
                boolean whole = i + 2 < blocks.size() && blocks.get(i + 1)[0].equals("sh")
                        && blocks.get(i + 2)[0].equals("text");
                Check.count(whole, "behind " + name + " stand no commands and no answers");
                if (whole) {
                    program(name, blocks.get(i)[1], blocks.get(i + 1)[1], blocks.get(i + 2)[1]);
                }
            }
        }
        Check.count(found > 0, "the page shows no whole program");
    }

    private void program(String name, String text, String commands, String want)
            throws IOException, InterruptedException {
        Files.writeString(FOLDER.resolve(name + ".java"), text);
        StringBuilder printed = new StringBuilder();
        for (String command : commands.lines().toList()) {
            Check.count(command.matches("javac? .*"), "the page shows the command " + command);
            printed.append(run(command.split(" ")));
        }
        Check.count(printed.toString().equals(want), name + " prints\n" + printed + "README.md says\n" + want);
    }

    private void linesCompileAsShown() throws IOException, InterruptedException {
        compile("Shown", String.join("\n", lines));
    }

    /** The same lines again, but each answer is printed, to be held against the one that the page tells. */
    private void linesAnswerAsShown() throws IOException, InterruptedException {
        StringBuilder asking = new StringBuilder();
        List<String> calls = new ArrayList<>();
        List<String> want = new ArrayList<>();
        for (String line : lines) {
            Matcher answered = ANSWERED.matcher(line);
            Matcher refused = REFUSED.matcher(line);
            if (answered.matches()) {
                asking.append(askingAnswer(answered.group(1), answered.group(2)));
                calls.add(line);
                want.add(answered.group(4));
            } else if (refused.matches()) {
                asking.append(askingRefusal(refused.group(1)));
                calls.add(line);
                want.add("throws " + refused.group(2));
            } else {
                Check.count(line.equals(NEW_BOOK), "no answer is told: " + line);
                asking.append(line).append('\n');
            }
        }
        compile("Asked", asking.toString());
        List<String> got = run("java", "-cp", "classes", "Asked").lines().toList();
        Check.count(got.size() == want.size(), got.size() + " answers, README.md tells " + want.size());
        for (int i = 0; i < want.size() && i < got.size(); i++) {
            Check.count(got.get(i).equals(want.get(i)), "answered " + got.get(i) + ": " + calls.get(i));
        }
    }

    private static String askingAnswer(String declared, String call) {
        if (declared == null) {
            return "System.out.println(" + call + ");\n";
        }
        String name = declared.split(" ")[1];
        return declared + call + ";\nSystem.out.println(" + name + ");\n";
    }

    private static String askingRefusal(String call) {
        return "try {\n" + call + ";\nSystem.out.println(\"throws nothing\");\n} catch (RuntimeException e) {\n"
                + "System.out.println(\"throws \" + e.getClass().getSimpleName());\n}\n";
    }

    private void callsAreShown() {
        TreeSet<String> answered = new TreeSet<>();
        TreeSet<String> thrown = new TreeSet<>();
        for (String line : lines) {
            Matcher answer = ANSWERED.matcher(line);
            Matcher refusal = REFUSED.matcher(line);
            if (answer.matches()) {
                answered.add(answer.group(3));
            } else if (refusal.matches()) {
                thrown.add(refusal.group(2));
            }
        }
        for (Method m : ChoirNotes.class.getDeclaredMethods()) {
            if (Modifier.isPublic(m.getModifiers())) {
                Check.count(answered.contains(m.getName()), "README.md shows no answer of " + m.getName());
                for (Class<?> refusal : m.getExceptionTypes()) {
                    boolean shown = thrown.contains(refusal.getSimpleName());
                    Check.count(shown, "README.md shows no " + refusal.getSimpleName());
                }
            }
        }
    }

    private static void testsAreShown(String page) throws IOException {
        TreeSet<String> want = new TreeSet<>();
        try (Stream<Path> files = Files.list(TESTS)) {
            files.map(f -> f.getFileName().toString()).filter(f -> f.endsWith("Test.java"))
                    .forEach(f -> want.add(f.replace(".java", "")));
        }
        TreeSet<String> got = new TreeSet<>();
        Matcher row = Pattern.compile("(?m)^\\| `(\\w+Test)` \\|").matcher(page);
        while (row.find()) {
            got.add(row.group(1));
        }
        Check.count(got.equals(want), "README.md names the tests " + got + ", there are " + want);
        Check.count(page.contains("```sh\n.ci/run\n```"), "README.md does not say how to run the tests");
        Check.count(Files.isExecutable(Path.of(".ci/run")), ".ci/run cannot be run");
    }

    private void compile(String name, String text) throws IOException, InterruptedException {
        Files.writeString(FOLDER.resolve(name + ".java"),
                "public class " + name + " {\npublic static void main(String[] args) {\n" + text + "\n}\n}\n");
        run("javac", "-d", "classes", SOURCE.toString(), name + ".java");
    }

    /** Runs a command in the reader's folder; what it prints. */
    private static String run(String... command) throws IOException, InterruptedException {
        Process process = new ProcessBuilder(command).directory(FOLDER.toFile())
                .redirectError(ProcessBuilder.Redirect.INHERIT).start();
        String printed = new String(process.getInputStream().readAllBytes(), StandardCharsets.UTF_8);
        int end = process.waitFor();
        Check.count(end == 0, String.join(" ", command) + " ended with " + end);
        return printed.replace("\r\n", "\n");
    }
}
