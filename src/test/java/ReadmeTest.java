import java.io.IOException;
import java.lang.reflect.Method;
import java.lang.reflect.Modifier;
import java.nio.charset.StandardCharsets;
import java.nio.file.FileVisitOption;
import java.nio.file.Files;
import java.nio.file.Path;
import java.nio.file.StandardCopyOption;
import java.util.ArrayList;
import java.util.Collections;
import java.util.List;
import java.util.TreeSet;
import java.util.regex.Matcher;
import java.util.regex.Pattern;
import java.util.stream.Stream;

/**
 * README.md: its example compiles and answers as it says, and its commands run the tests. Runs in the
 * project's folder; the commands run in a copy of it, with a copy of ../shared beside it.
 */
public final class ReadmeTest {
    private static final String FACE = "src/main/java/ClosExchange.java";
    private static final String TESTS = "src/test/java";
    private static final String SHARED_TESTS = "../shared/tests";
    /** A line of the example that prints, and tells behind it what it prints and why. */
    private static final Pattern PRINTED = Pattern.compile(" +System\\.out\\.println\\(.+\\); +// (-?\\d+): .+");

    private record Ran(int code, String output) {
    }

    private final Path project;

    private ReadmeTest(Path room) throws IOException {
        project = room.resolve("main");
        copy(Path.of(".ci"), project.resolve(".ci"));
        copy(Path.of("src"), project.resolve("src"));
        copy(Path.of("../shared"), room.resolve("shared"));
        // Without this, the test would run itself in the copy, and again in the copy's copy, without end.
        Files.delete(project.resolve(TESTS).resolve("ReadmeTest.java"));
    }

    public static void main(String[] args) throws IOException, InterruptedException {
        Path room = Files.createTempDirectory("readme");
        try {
            ReadmeTest test = new ReadmeTest(room);
            test.theExampleAnswersAsReadmeSays();
            test.theMethodsAreThoseOfTheFace();
            test.theConstantsAreThoseOfTheFace();
            test.theCommandsRunTheTests();
            test.theCommandsFailWithABrokenClass();
            test.theFirstCommandRunsEveryTest();
        } finally {
            delete(room);
        }
        Due.end("ReadmeTest");
    }

    private void theExampleAnswersAsReadmeSays() throws IOException, InterruptedException {
        Due.about("the example of README.md");
        String example = blocks("How to use it", "java").get(0);
        StringBuilder told = new StringBuilder();
        for (String line : example.split("\n")) {
            Matcher printed = PRINTED.matcher(line);
            boolean tells = printed.matches();
            Due.due("whether a line that prints tells its answer: " + line, tells ? 1 : 0, line.contains("println") ? 1 : 0);
            told.append(tells ? printed.group(1) + "\n" : "");
        }
        Path file = project.resolve("Example.java");
        put(file, example);
        Ran ran = run(blocks("How to use it", "sh").get(0));
        Due.same("what it prints", ran.output(), told.toString());
        Due.due("exit code", ran.code(), 0);
        Files.delete(file);
    }

    private void theMethodsAreThoseOfTheFace() throws IOException {
        TreeSet<String> face = new TreeSet<>();
        for (Method method : ClosExchange.class.getDeclaredMethods()) {
            if (Modifier.isPublic(method.getModifiers())) {
                face.add(method.getName() + " " + method.getParameterCount());
            }
        }
        TreeSet<String> told = new TreeSet<>();
        Matcher method = Pattern.compile("`(\\w+)\\(([\\w, ]*)\\)`").matcher(section("How to use it"));
        while (method.find()) {
            told.add(method.group(1) + " " + (method.group(2).isEmpty() ? 0 : method.group(2).split(",").length));
        }
        Due.about("README.md");
        Due.same("the methods", told.toString(), face.toString());
    }

    private void theConstantsAreThoseOfTheFace() throws IOException {
        TreeSet<String> told = new TreeSet<>();
        Matcher constant = Pattern.compile("`([A-Z_]+)`").matcher(section("How to use it"));
        while (constant.find()) {
            told.add(constant.group(1));
        }
        Due.same("the constants", told.toString(), "[BLOCKED, BUSY, FULL, NONE, OUT_OF_RANGE, UNKNOWN]");
    }

    private void theCommandsRunTheTests() throws IOException, InterruptedException {
        List<String> commands = blocks("How to run the tests", "sh");
        Due.due("blocks of commands that run tests", commands.size(), 3);
        for (String command : commands) {
            Due.about(command.trim());
            Due.due("exit code", run(command).code(), 0);
        }
    }

    private void theCommandsFailWithABrokenClass() throws IOException, InterruptedException {
        Path face = project.resolve(FACE);
        String whole = Files.readString(face);
        put(face, whole.replace("int UNKNOWN = -1;", "int UNKNOWN = -99;"));
        for (String command : blocks("How to run the tests", "sh")) {
            Due.about(command.trim() + " with a class that answers another UNKNOWN");
            Due.due("exit code", run(command).code(), 1);
        }
        put(face, whole);
    }

    /** It names each as passed or failed, and fails by one that fails, wherever that one stands. */
    private void theFirstCommandRunsEveryTest() throws IOException, InterruptedException {
        List<String> own = new ArrayList<>(names(Path.of(TESTS), "Test.java", ""));
        own.remove("ReadmeTest");
        List<String> all = new ArrayList<>(own);
        all.addAll(names(Path.of(SHARED_TESTS), ".java", SHARED_TESTS + "/"));
        for (String name : all) {
            putTest(name, 0);
        }
        expectOfTheFirstCommand(all, "");
        for (String name : List.of(own.get(0), all.get(all.size() - 1))) {
            putTest(name, 1);
            expectOfTheFirstCommand(all, name);
            putTest(name, 0);
        }
    }

    /** Puts a test into the copy, in place of the one of that name, that only ends with that exit code. */
    private void putTest(String name, int code) throws IOException {
        String path = name.startsWith(SHARED_TESTS) ? name : TESTS + "/" + name;
        Path file = project.resolve(path + ".java").normalize();
        String type = file.getFileName().toString().replace(".java", "");
        put(file, "public final class " + type + " { public static void main(String[] args) { System.exit(" + code + "); } }");
    }

    private void expectOfTheFirstCommand(List<String> names, String failing) throws IOException, InterruptedException {
        String command = blocks("How to run the tests", "sh").get(0);
        Ran ran = run(command);
        Due.about(command.trim() + (failing.isEmpty() ? "" : " with a failing " + failing));
        Due.due("exit code", ran.code(), failing.isEmpty() ? 0 : 1);
        List<String> said = new ArrayList<>(ran.output().lines().toList());
        for (String name : names) {
            String due = (name.equals(failing) ? "FAILED: " : "passed: ") + name;
            Due.due("lines \"" + due + "\"", Collections.frequency(said, due), 1);
        }
    }

    private static List<String> names(Path folder, String end, String ahead) throws IOException {
        try (Stream<Path> files = Files.list(folder)) {
            return files.map(file -> file.getFileName().toString()).filter(name -> name.endsWith(end))
                .map(name -> ahead + name.replace(".java", "")).sorted().toList();
        }
    }

    private Ran run(String commands) throws IOException, InterruptedException {
        Process process = new ProcessBuilder("bash", "-e", "-c", commands).directory(project.toFile())
            .redirectErrorStream(true).start();
        String output = new String(process.getInputStream().readAllBytes(), StandardCharsets.UTF_8);
        return new Ran(process.waitFor(), output);
    }

    private static String section(String heading) throws IOException {
        String text = Files.readString(Path.of("README.md"));
        int from = text.indexOf("## " + heading + "\n");
        Due.due("whether README.md has the section " + heading, from >= 0 ? 1 : 0, 1);
        int to = text.indexOf("\n## ", from + 1);
        return text.substring(Math.max(from, 0), to < 0 ? text.length() : to);
    }

    private static List<String> blocks(String heading, String kind) throws IOException {
        List<String> blocks = new ArrayList<>();
        Matcher block = Pattern.compile("(?ms)^```" + kind + "\n(.*?)^```$").matcher(section(heading));
        while (block.find()) {
            blocks.add(block.group(1));
        }
        return blocks;
    }

    /** A file that was copied might not be one to write in, so it is not kept. */
    private static void put(Path file, String text) throws IOException {
        Files.deleteIfExists(file);
        Files.writeString(file, text);
    }

    private static void copy(Path from, Path to) throws IOException {
        try (Stream<Path> all = Files.walk(from, FileVisitOption.FOLLOW_LINKS)) {
            for (Path path : all.toList()) {
                Path place = to.resolve(from.relativize(path).toString());
                if (Files.isDirectory(path)) {
                    Files.createDirectories(place);
                } else {
                    Files.copy(path, place, StandardCopyOption.COPY_ATTRIBUTES);
                }
            }
        }
    }

    private static void delete(Path folder) throws IOException {
        try (Stream<Path> all = Files.walk(folder)) {
            for (Path path : all.sorted(Collections.reverseOrder()).toList()) {
                Files.delete(path);
            }
        }
    }
}
