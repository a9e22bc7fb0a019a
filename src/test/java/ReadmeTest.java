import java.io.File;
import java.io.IOException;
import java.net.URL;
import java.net.URLClassLoader;
import java.nio.file.Files;
import java.nio.file.Path;
import java.util.ArrayList;
import java.util.Comparator;
import java.util.List;
import java.util.Set;
import java.util.TreeSet;
import java.util.regex.Matcher;
import java.util.regex.Pattern;
import java.util.stream.Collectors;
import java.util.stream.Stream;
import javax.tools.JavaCompiler;
import javax.tools.ToolProvider;

/** What README.md tells holds: its program's calls answer as it says, its commands work, and no test is left out. */
public final class ReadmeTest {
    private static final Path README = Path.of("README.md");
    private static final Path TESTS = Path.of("src/test/java");
    private static final Pattern CALL = Pattern.compile("\\s*(x\\.\\w+\\(.*\\));(.*)");
    private static final Pattern ANSWER = Pattern.compile("\\s*// (-?\\d+|[A-Z]+)(?:: .*)?");
    private static int asked;
    private static int wrong;

    public static void main(String[] args) throws IOException, InterruptedException, ReflectiveOperationException {
        String page = Files.readString(README);
        Path work = Files.createTempDirectory("readme");
        try {
            List<String> programs = blocks(page, "java");
            so(programs.size() == 1, "there is one program");
            answers(programs.get(0), work);
            commands(page, programs.get(0), work);
        } finally {
            remove(work);
        }
        tests(page);
        so(page.contains("\n    .ci/run\n") && Files.isExecutable(Path.of(".ci/run")), ".ci/run is told of, and can be run");
        System.out.println(asked + " answers and claims of README.md asked, " + wrong + " not as due");
        if (wrong != 0) {
            System.exit(1);
        }
    }

    /** The program of the page calls this in place of the calls that have an answer behind them. */
    public static void due(String call, int got, int want) {
        so(got == want, call + " answered " + got + ", README.md says " + want);
    }

    private static void so(boolean holds, String what) {
        asked++;
        if (!holds) {
            wrong++;
            System.out.println("not as due: " + what);
        }
    }

    private static List<String> blocks(String page, String language) {
        List<String> found = new ArrayList<>();
        Matcher block = Pattern.compile("(?s)```" + language + "\n(.*?)```").matcher(page);
        while (block.find()) {
            found.add(block.group(1));
        }
        return found;
    }

    /** Only the helpers behind main may call without an answer. */
    private static String asking(String program) {
        int endOfMain = program.indexOf("\n    }\n");
        StringBuilder text = new StringBuilder();
        for (String line : program.substring(0, endOfMain).split("\n")) {
            Matcher call = CALL.matcher(line);
            if (call.matches()) {
                Matcher answer = ANSWER.matcher(call.group(2));
                boolean told = answer.matches();
                so(told, "there is an answer behind " + line);
                line = told ? dueLine(call.group(1), answer.group(1)) : line;
            }
            text.append(line).append('\n');
        }
        return text + program.substring(endOfMain);
    }

    private static String dueLine(String call, String answer) {
        String want = Character.isLetter(answer.charAt(0)) ? "CabinetTable." + answer : answer;
        return "ReadmeTest.due(\"" + call + "\", " + call + ", " + want + ");";
    }

    private static void answers(String program, Path work) throws IOException, ReflectiveOperationException {
        Path source = Files.createDirectory(work.resolve("asking")).resolve("Example.java");
        Files.writeString(source, asking(program));
        JavaCompiler compiler = ToolProvider.getSystemJavaCompiler();
        int code = compiler.run(null, null, null, "-cp", System.getProperty("java.class.path"), "-d", source.getParent().toString(), source.toString());
        so(code == 0, "the program compiles");
        if (code != 0) {
            return;
        }
        int before = asked;
        try (URLClassLoader loader = new URLClassLoader(new URL[] {source.getParent().toUri().toURL()}, ReadmeTest.class.getClassLoader())) {
            loader.loadClass("Example").getMethod("main", String[].class).invoke(null, (Object) new String[0]);
        }
        so(asked > before, "the program asks something");
    }

    /** In a copy, as on a clean checkout, so that nothing is left in this one. */
    private static void commands(String page, String program, Path work) throws IOException, InterruptedException {
        Path copy = Files.createDirectory(work.resolve("checkout"));
        copyTree(Path.of("src"), copy.resolve("src"));
        Files.writeString(copy.resolve("Example.java"), program);
        List<String> blocks = blocks(page, "sh");
        so(blocks.size() == 2, "there are two rows of commands");
        for (String block : blocks) {
            ProcessBuilder shell = new ProcessBuilder("sh", "-e", "-c", block).directory(copy.toFile()).redirectErrorStream(true);
            File output = work.resolve("output").toFile();
            shell.environment().put("TMPDIR", work.toString());
            int code = shell.redirectOutput(output).start().waitFor();
            so(code == 0, "these commands do what they say: " + block + Files.readString(output.toPath()));
        }
    }

    private static void copyTree(Path from, Path to) throws IOException {
        try (Stream<Path> all = Files.walk(from)) {
            for (Path one : all.collect(Collectors.toList())) {
                Files.copy(one, to.resolve(from.relativize(one).toString()));
            }
        }
    }

    private static void remove(Path tree) throws IOException {
        try (Stream<Path> all = Files.walk(tree)) {
            all.sorted(Comparator.reverseOrder()).map(Path::toFile).forEach(File::delete);
        }
    }

    private static void tests(String page) throws IOException {
        Set<String> there = new TreeSet<>();
        try (Stream<Path> all = Files.list(TESTS)) {
            all.map(one -> one.getFileName().toString()).filter(name -> name.endsWith("Test.java")).forEach(name -> there.add(name.replace(".java", "")));
        }
        Set<String> told = new TreeSet<>();
        Matcher line = Pattern.compile("(?m)^- `(\\w+Test)`: ").matcher(page);
        while (line.find()) {
            told.add(line.group(1));
        }
        so(there.equals(told), "the tests " + there + " are told of: " + told);
    }
}
