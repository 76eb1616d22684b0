import java.io.IOException;
import java.io.UncheckedIOException;
import java.lang.reflect.Method;
import java.lang.reflect.Modifier;
import java.net.URL;
import java.net.URLClassLoader;
import java.nio.charset.StandardCharsets;
import java.nio.file.Files;
import java.nio.file.Path;
import java.util.ArrayList;
import java.util.List;
import java.util.Set;
import java.util.TreeSet;
import java.util.regex.Matcher;
import java.util.regex.Pattern;
import java.util.stream.Stream;
import javax.tools.ToolProvider;

/** What README.md says is so: its examples, its tables, its commands. */
public final class ReadmeTest {
    private static final Path README = Path.of("README.md");
    private static final Path TESTS = Path.of("src/test/java");
    private static final Path SHARED = Path.of("../shared");
    private static final Pattern EXAMPLE = Pattern.compile("(?s)```java\n(.*?)```");
    private static final Pattern CALL = Pattern.compile("page\\.(\\w+\\(.*\\)); +// (-?\\d+)(:.*)?");
    private static final String BEGIN = "PageWars page = new PageWars();";
    private static final String WHOLE = "sh .ci/run";

    private ReadmeTest() {
    }

    // ---- examples

    /** The examples as a class whose run() looks at each answer; of PageWars, or of the Model. */
    private static String program(String readme, String subject, Set<String> called) {
        StringBuilder code = new StringBuilder("public final class Of" + subject
                + " { public static void run() throws Exception {\n"
                + "java.lang.reflect.Method is = Class.forName(\"Due\").getDeclaredMethod("
                + "\"is\", String.class, long.class, long.class);\nis.setAccessible(true);\n");
        Matcher example = EXAMPLE.matcher(readme);
        while (example.find()) {
            code.append("{\n");
            for (String line : example.group(1).split("\n")) {
                Matcher call = CALL.matcher(line);
                boolean isCall = call.matches();
                Due.holds("a line of an example: " + line, isCall || line.equals(BEGIN));
                if (isCall) {
                    called.add(call.group(1).substring(0, call.group(1).indexOf('(')));
                    code.append("is.invoke(null, \"").append(call.group(1)).append(" of ")
                            .append(subject).append("\", (long) page.").append(call.group(1))
                            .append(", ").append(call.group(2)).append("L);\n");
                } else {
                    code.append(line.replace("PageWars", subject)).append('\n');
                }
            }
            code.append("}\n");
        }
        return code.append("} }\n").toString();
    }

    private static void runs(Path folder, String name, String code)
            throws IOException, ReflectiveOperationException {
        Path file = folder.resolve(name + ".java");
        Files.writeString(file, code, StandardCharsets.UTF_8);
        int failed = ToolProvider.getSystemJavaCompiler().run(null, null, null, "-cp",
                System.getProperty("java.class.path"), "-d", folder.toString(), file.toString());
        Due.is("the examples compile, " + name, failed, 0);
        if (failed == 0) {
            try (URLClassLoader loader = new URLClassLoader(new URL[] {folder.toUri().toURL()})) {
                loader.loadClass(name).getMethod("run").invoke(null);
            }
        }
    }

    private static void examples(String readme, Path folder)
            throws IOException, ReflectiveOperationException {
        Set<String> called = new TreeSet<>();
        runs(folder, "OfPageWars", program(readme, "PageWars", called));
        runs(folder, "OfModel", program(readme, "Model", called));
        Due.holds("many calls have an example", called.size() >= 20);
    }

    // ---- tables

    private static Set<String> cells(String readme, String pattern) {
        Set<String> found = new TreeSet<>();
        Matcher m = Pattern.compile(pattern).matcher(readme);
        while (m.find()) {
            Due.holds(m.group(1) + " stands there once", found.add(m.group(1)));
        }
        return found;
    }

    private static void calls(String readme) {
        Set<String> due = new TreeSet<>();
        for (Method m : PageWars.class.getDeclaredMethods()) {
            if (Modifier.isPublic(m.getModifiers())) {
                due.add(m.getName() + " " + m.getParameterCount());
            }
        }
        Set<String> seen = new TreeSet<>();
        for (String call : cells(readme, "(?m)^\\| `(\\w+\\([^)]*\\))` \\|")) {
            String values = call.substring(call.indexOf('(') + 1, call.length() - 1);
            int number = values.isEmpty() ? 0 : values.split(", ").length;
            seen.add(call.substring(0, call.indexOf('(')) + " " + number);
        }
        Due.holds("all calls: " + seen, seen.equals(due));
    }

    private static void errors(String readme) {
        String[] names = {"BEYOND", "NONE", "STATE", "FULL", "KIND", "PARTED"};
        for (int k = 1; k <= names.length; k++) {
            Due.holds(names[k - 1], readme.contains("\n| " + names[k - 1] + " | -100000" + k + " |"));
        }
    }

    private static void tests(String readme) throws IOException {
        Set<String> due = new TreeSet<>();
        try (Stream<Path> files = Files.list(TESTS)) {
            files.map(f -> f.getFileName().toString()).filter(f -> f.endsWith("Test.java"))
                    .forEach(f -> due.add(f.substring(0, f.length() - ".java".length())));
        }
        Set<String> seen = cells(readme, "(?m)^\\| (\\w+Test) \\|");
        Due.holds("all tests: " + seen, seen.equals(due));
    }

    // ---- commands

    private static List<String> commandsOf(String readme) {
        List<String> commands = new ArrayList<>();
        Matcher m = Pattern.compile("(?m)^ {4}(\\S.*)$").matcher(readme);
        while (m.find()) {
            commands.add(m.group(1));
        }
        return commands;
    }

    /** A copy of the project with ../shared beside it, so that commands leave nothing behind. */
    private static Path copy(Path folder) throws IOException {
        Path project = Files.createDirectories(folder.resolve("project"));
        try (Stream<Path> files = Files.walk(Path.of("src"))) {
            for (Path file : files.filter(Files::isRegularFile).toList()) {
                Path to = project.resolve(file.toString());
                Files.createDirectories(to.getParent());
                Files.copy(file, to);
            }
        }
        Files.createSymbolicLink(folder.resolve("shared"), SHARED.toAbsolutePath().normalize());
        return project;
    }

    private static int exitCode(Path project, Path log, String command)
            throws IOException, InterruptedException {
        return new ProcessBuilder("sh", "-c", command).directory(project.toFile())
                .redirectErrorStream(true).redirectOutput(log.toFile()).start().waitFor();
    }

    private static void commands(String readme, Path folder)
            throws IOException, InterruptedException {
        List<String> commands = commandsOf(readme);
        Due.is(WHOLE + " is told", commands.indexOf(WHOLE), 0);
        // It is what runs this test, so here it is enough that it is there to be run.
        Due.holds(".ci/run can be run", Files.isExecutable(Path.of(".ci/run")));
        Due.holds("there are others", commands.size() > 1);
        Path project = copy(folder);
        for (String command : commands.subList(1, commands.size())) {
            Path log = folder.resolve("log");
            int code = exitCode(project, log, command);
            Due.is(command, code, 0);
            if (code != 0) {
                System.out.println(Files.readString(log));
            }
        }
    }

    private static void remove(Path folder) {
        try (Stream<Path> files = Files.walk(folder)) {
            for (Path file : files.sorted(java.util.Comparator.reverseOrder()).toList()) {
                Files.delete(file);
            }
        } catch (IOException e) {
            throw new UncheckedIOException(e);
        }
    }

    public static void main(String[] args) throws Exception {
        Due.subject("README.md");
        String readme = Files.readString(README, StandardCharsets.UTF_8);
        Path folder = Files.createTempDirectory("readme");
        try {
            examples(readme, folder);
            calls(readme);
            errors(readme);
            tests(readme);
            commands(readme, folder);
        } finally {
            remove(folder);
        }
        Due.ends();
    }
}
