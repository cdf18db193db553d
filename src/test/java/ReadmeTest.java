import java.io.File;
import java.io.IOException;
import java.lang.reflect.Method;
import java.lang.reflect.Modifier;
import java.net.URL;
import java.net.URLClassLoader;
import java.nio.file.Files;
import java.nio.file.Path;
import java.util.ArrayList;
import java.util.List;
import java.util.TreeSet;
import java.util.regex.Matcher;
import java.util.regex.Pattern;
import java.util.stream.Stream;
import javax.tools.JavaCompiler;
import javax.tools.ToolProvider;

/** What README.md shows of the class's use compiles and answers so; it shows every call and names every test. */
public final class ReadmeTest {
    private static final Path PAGE = Path.of("README.md");
    private static final String COMMAND = "javac -d out src/main/java/OneNail.java Mine.java";
    private static final Path TESTS = Path.of("src/test/java");
    // A call, and what its comment begins with: a number or the name of a constant.
    private static final Pattern CALL = Pattern.compile("(\\w+\\.(\\w+)\\(.*\\));\\s+// (-?\\d+|[A-Z]+)(:.*)?");

    public static void main(String[] args) throws IOException, ReflectiveOperationException {
        String page = Files.readString(PAGE);
        List<String> shown = blocks(page, "java");
        Check.holds("README.md shows the class's use", !shown.isEmpty());
        Path room = Files.createTempDirectory("readme");
        try {
            asItStands(page, shown, room);
            asItAnswers(shown, room);
        } finally {
            clear(room);
        }
        everyCallIsShown(shown);
        everyTestIsNamed(page);
        testsAreRunSo(page);
        Check.end();
    }

    /** The lines of all blocks of a language, in their order. */
    private static List<String> blocks(String page, String language) {
        List<String> lines = new ArrayList<>();
        boolean inside = false;
        for (String line : page.split("\n")) {
            if (line.startsWith("```")) {
                inside = !inside && line.equals("```" + language);
            } else if (inside) {
                lines.add(line);
            }
        }
        return lines;
    }

    /** By the command that README.md shows, into a directory of this test's own. */
    private static void asItStands(String page, List<String> shown, Path room)
            throws IOException, ReflectiveOperationException {
        List<String> commands = blocks(page, "sh");
        Check.holds("README.md says how to compile", commands.contains(COMMAND));
        String source = "public final class Mine {\n    public static void run() {\n"
                + String.join("\n", shown) + "\n    }\n}\n";
        Path file = write(room, "Mine", source);
        List<String> words = new ArrayList<>();
        for (String word : COMMAND.substring("javac ".length()).split(" ")) {
            words.add(word.equals("out") ? room.toString() : word.equals("Mine.java") ? file.toString() : word);
        }
        if (compiles("Mine", words)) {
            runOf(room, "Mine").invoke(null);
        }
    }

    /** The same lines, but each call's answer is kept; only a loop's calls stand without one. */
    private static void asItAnswers(List<String> shown, Path room) throws IOException, ReflectiveOperationException {
        List<String> calls = new ArrayList<>();
        List<String> answers = new ArrayList<>();
        StringBuilder body = new StringBuilder();
        for (String line : shown) {
            Matcher call = CALL.matcher(line);
            if (call.matches()) {
                calls.add(call.group(1));
                answers.add(call.group(3));
                body.append("keep(").append(call.group(1)).append(");\n");
            } else {
                Check.holds("README.md tells no answer: " + line, !line.matches("\\w+\\.\\w+\\(.*"));
                body.append(line).append('\n');
            }
        }
        String source = "public final class Answers {\n"
                + "    private static java.util.List<Long> got = new java.util.ArrayList<>();\n"
                + "    private static void keep(long answer) { got.add(answer); }\n"
                + "    public static java.util.List<Long> run() {\n" + body + "        return got;\n    }\n}\n";
        Path file = write(room, "Answers", source);
        String classes = System.getProperty("java.class.path");
        if (!compiles("Answers", List.of("-d", room.toString(), "-cp", classes, file.toString()))) {
            return;
        }
        List<?> got = (List<?>) runOf(room, "Answers").invoke(null);
        Check.due("answers of README.md", got.size(), answers.size());
        for (int k = 0; k < got.size() && k < answers.size(); k++) {
            Check.due("README.md: " + calls.get(k), (Long) got.get(k), number(answers.get(k)));
        }
    }

    private static long number(String answer) throws ReflectiveOperationException {
        if (answer.matches("-?\\d+")) {
            return Long.parseLong(answer);
        }
        return ((Number) OneNail.class.getField(answer).get(null)).longValue();
    }

    private static Path write(Path room, String name, String source) throws IOException {
        return Files.writeString(room.resolve(name + ".java"), source);
    }

    private static boolean compiles(String name, List<String> words) {
        JavaCompiler compiler = ToolProvider.getSystemJavaCompiler();
        Check.holds("there is a compiler", compiler != null);
        int how = compiler == null ? 1 : compiler.run(null, null, null, words.toArray(new String[0]));
        Check.due("README.md compiles: " + name, how, 0);
        return how == 0;
    }

    private static Method runOf(Path room, String name) throws IOException, ReflectiveOperationException {
        try (URLClassLoader loader = new URLClassLoader(new URL[] {room.toUri().toURL()})) {
            // Loaded whole ahead of the loader's end: neither class has another of its own beside it.
            return loader.loadClass(name).getMethod("run");
        }
    }

    private static void clear(Path room) {
        File[] files = room.toFile().listFiles();
        if (files != null) {
            for (File file : files) {
                file.delete();
            }
        }
        room.toFile().delete();
    }

    private static void everyCallIsShown(List<String> shown) {
        TreeSet<String> names = new TreeSet<>();
        for (String line : shown) {
            Matcher call = CALL.matcher(line);
            if (call.matches()) {
                names.add(call.group(2));
            }
        }
        for (Method method : OneNail.class.getDeclaredMethods()) {
            if (Modifier.isPublic(method.getModifiers())) {
                Check.holds("README.md shows " + method.getName(), names.contains(method.getName()));
            }
        }
    }

    private static void everyTestIsNamed(String page) throws IOException {
        try (Stream<Path> files = Files.list(TESTS)) {
            files.map(file -> file.getFileName().toString()).filter(name -> name.endsWith("Test.java")).sorted()
                    .map(name -> name.substring(0, name.length() - ".java".length()))
                    .forEach(name -> Check.holds("README.md names " + name, page.contains("\n| " + name + " |")));
        }
        Matcher named = Pattern.compile("\n\\| (\\w+Test) \\|").matcher(page);
        while (named.find()) {
            Path file = TESTS.resolve(named.group(1) + ".java");
            Check.holds("there is " + file, Files.exists(file));
        }
    }

    private static void testsAreRunSo(String page) {
        Check.holds("README.md says how to run the tests", blocks(page, "sh").contains("bash .ci/run"));
        Check.holds(".ci/run can be run", Files.isExecutable(Path.of(".ci/run")));
    }
}
