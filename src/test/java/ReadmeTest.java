import java.io.File;
import java.io.IOException;
import java.net.URL;
import java.net.URLClassLoader;
import java.nio.file.Files;
import java.nio.file.Path;
import java.util.ArrayList;
import java.util.Comparator;
import java.util.List;
import java.util.regex.Matcher;
import java.util.regex.Pattern;
import java.util.stream.Stream;
import javax.tools.ToolProvider;

/** What README.md tells holds: the answers of its example, its commands, and its list of tests. */
public final class ReadmeTest {
    private static final Due DUE = new Due("ReadmeTest");
    private static final Pattern TOLD = Pattern.compile("(int \\w+ = )?(.*);\\s+// (-?\\d+|true|false|throws \\w+)(:.*)?");
    private static int answers;

    public static void main(String[] args) throws Exception {
        String text = Files.readString(Path.of("README.md"));
        Path folder = Files.createTempDirectory("readme");
        try {
            example(block(text, "java"), folder);
            commands(text, folder);
            tests(text);
        } finally {
            remove(folder);
        }
        DUE.end();
    }

    private static String block(String text, String kind) {
        Matcher matcher = Pattern.compile("```" + kind + "\n(.*?)```", Pattern.DOTALL).matcher(text);
        return matcher.find() ? matcher.group(1) : "";
    }

    /** Called by the example, once it has been made a program. */
    public static void answer(String line, Object got, String told) {
        answers++;
        if (!String.valueOf(got).equals(told)) {
            System.out.println("ReadmeTest: " + line + " answered " + got);
        }
        DUE.is(line, String.valueOf(got).equals(told), true);
    }

    private static void example(String example, Path folder) throws Exception {
        int due = 0;
        StringBuilder program = new StringBuilder("public final class Example {\n    public static void go() {\n");
        for (String line : example.split("\n")) {
            Matcher told = TOLD.matcher(line);
            boolean isTold = told.matches();
            due += isTold ? 1 : 0;
            DUE.is("an answer is told, or none: " + line, isTold || !line.matches(".*;.*//.*"), true);
            program.append(isTold ? checked(told) : line).append('\n');
        }
        Path source = folder.resolve("Example.java");
        Files.writeString(source, program + "    }\n}\n");
        int made = ToolProvider.getSystemJavaCompiler().run(null, null, null, "-cp",
            System.getProperty("java.class.path"), "-d", folder.toString(), source.toString());
        DUE.is("the example is Java", made, 0);
        try (URLClassLoader loader = new URLClassLoader(new URL[] {folder.toUri().toURL()})) {
            loader.loadClass("Example").getMethod("go").invoke(null);
        }
        DUE.is("answers of the example", answers, due);
        DUE.is("the example has many", due > 30, true);
    }

    private static String checked(Matcher told) {
        String call = told.group(2);
        String answer = told.group(3);
        String rest = "\"" + call + "\", %s, \"" + answer + "\");";
        if (answer.startsWith("throws")) {
            return "try { " + call + "; ReadmeTest.answer(" + String.format(rest, "\"nothing\"")
                + " } catch (RuntimeException e) { ReadmeTest.answer("
                + String.format(rest, "\"throws \" + e.getClass().getSimpleName()") + " }";
        }
        if (told.group(1) == null) {
            return "ReadmeTest.answer(" + String.format(rest, call);
        }
        String name = told.group(1).split(" ")[1];
        return told.group(1) + call + "; ReadmeTest.answer(" + String.format(rest, name);
    }

    /** The commands are run as they stand, but for the folder of what is compiled; .ci/run runs this test itself. */
    private static void commands(String text, Path folder) throws IOException, InterruptedException {
        Matcher blocks = Pattern.compile("```sh\n(.*?)```", Pattern.DOTALL).matcher(text);
        List<String> commands = new ArrayList<>();
        while (blocks.find()) {
            commands.addAll(List.of(blocks.group(1).split("\n")));
        }
        DUE.is("commands", commands.size(), 7);
        for (String command : commands) {
            if (command.equals(".ci/run")) {
                DUE.is(command + " can be run", new File(command).canExecute(), true);
                continue;
            }
            String placed = command.replaceAll(" out ", " '" + folder.resolve("out") + "' ");
            Process process = new ProcessBuilder("sh", "-c", placed).redirectErrorStream(true).start();
            String said = new String(process.getInputStream().readAllBytes());
            int code = process.waitFor();
            DUE.is(command + " ends with 0, saying " + said, code, 0);
        }
    }

    private static void tests(String text) throws IOException {
        List<String> there = new ArrayList<>();
        try (Stream<Path> files = Files.list(Path.of("src/test/java"))) {
            files.map(file -> file.getFileName().toString().replace(".java", "")).forEach(there::add);
        }
        for (String test : there) {
            DUE.is("told of " + test, test.equals("Due") || text.contains("`" + test + "`"), true);
        }
        Matcher named = Pattern.compile("`(\\w+Test)`").matcher(text);
        while (named.find()) {
            DUE.is("there is " + named.group(1), there.contains(named.group(1)), true);
        }
    }

    private static void remove(Path folder) throws IOException {
        try (Stream<Path> files = Files.walk(folder)) {
            files.sorted(Comparator.reverseOrder()).forEach(file -> file.toFile().delete());
        }
    }
}
