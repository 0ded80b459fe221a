import java.io.IOException;
import java.lang.reflect.Method;
import java.lang.reflect.Modifier;
import java.nio.file.DirectoryStream;
import java.nio.file.Files;
import java.nio.file.Path;
import java.util.ArrayList;
import java.util.Comparator;
import java.util.List;
import java.util.Set;
import java.util.TreeSet;
import java.util.regex.Matcher;
import java.util.regex.Pattern;
import java.util.stream.Stream;

/** README.md is followed: its program answers and prints what is told there, its commands run, its tables have all. */
public final class ReadmeTest {
    private static final Check CHECK = new Check();
    /** Where README.md puts what it compiles; the test takes a folder of its own for it. */
    private static final String FOLDER = "/tmp/desks";
    private static final Pattern ANSWER = Pattern.compile("(?m)^ *(x\\.\\w+\\(.*\\)); +// (-?\\d+): .*$");

    public static void main(String[] args) throws IOException, InterruptedException {
        String text = Files.readString(Path.of("README.md"));
        Path folder = Files.createTempDirectory("readme");
        try {
            program(text, folder);
            oneTest(text, folder);
        } finally {
            remove(folder);
        }
        tests(text);
        calls(text);
        CHECK.due(".ci/run can be run", Files.isExecutable(Path.of(".ci/run")) ? 1 : 0, 1);
        CHECK.end();
    }

    private static void program(String text, Path folder) throws IOException, InterruptedException {
        CHECK.part("program");
        String program = block(text, "java");
        List<String> commands = commands(text, "## How to use it", folder);
        CHECK.due("commands", commands.size(), 2);
        Path file = folder.resolve("Example.java");
        Files.writeString(file, program);
        CHECK.due("it prints what is told", runAll(commands).equals(block(text, "text")) ? 1 : 0, 1);

        Matcher told = ANSWER.matcher(program);
        Files.writeString(file, told.replaceAll("System.out.println(\"answer \" + $1);"));
        String[] printed = runAll(commands).split("\n");
        int at = 0;
        told.reset();
        while (told.find()) {
            String got = at < printed.length ? printed[at] : "";
            CHECK.due(told.group(1) + " answered '" + got + "'", got.equals("answer " + told.group(2)) ? 1 : 0, 1);
            at++;
        }
        CHECK.due("answers that are told", at >= 15 ? 1 : 0, 1);
    }

    private static void oneTest(String text, Path folder) throws IOException, InterruptedException {
        CHECK.part("one test");
        List<String> commands = commands(text, "## How to run its tests", folder);
        CHECK.due("the first command is .ci/run", commands.remove(0).equals(".ci/run") ? 1 : 0, 1);
        CHECK.due("it says that all is as due", runAll(commands).contains(" 0 not as due") ? 1 : 0, 1);
    }

    private static void tests(String text) throws IOException {
        CHECK.part("tests");
        Set<String> told = new TreeSet<>();
        Matcher row = Pattern.compile("(?m)^\\| (\\w+Test) \\|").matcher(text);
        while (row.find()) {
            CHECK.due("told once: " + row.group(1), told.add(row.group(1)) ? 1 : 0, 1);
        }
        try (DirectoryStream<Path> files = Files.newDirectoryStream(Path.of("src/test/java"), "*Test.java")) {
            for (Path file : files) {
                String name = file.getFileName().toString().replace(".java", "");
                CHECK.due("told: " + name, told.remove(name) ? 1 : 0, 1);
            }
        }
        CHECK.due("told, but there is none: " + told, told.size(), 0);
    }

    private static void calls(String text) {
        CHECK.part("calls");
        for (Method m : RemoteDesks.class.getDeclaredMethods()) {
            if (Modifier.isPublic(m.getModifiers())) {
                CHECK.due("told: " + m.getName(), text.contains("`" + m.getName() + "`") ? 1 : 0, 1);
            }
        }
    }

    /** What the first block of a language has. */
    private static String block(String text, String language) {
        Matcher block = Pattern.compile("(?s)```" + language + "\n(.*?)```").matcher(text);
        return block.find() ? block.group(1) : "";
    }

    /** The lines of a chapter that are set in by four blanks, outside its blocks. */
    private static List<String> commands(String text, String chapter, Path folder) {
        String own = text.substring(Math.max(0, text.indexOf(chapter))).substring(2).split("\n## ")[0];
        List<String> found = new ArrayList<>();
        for (String line : own.replaceAll("(?s)```.*?```", "").split("\n")) {
            if (line.startsWith("    ")) {
                found.add(line.trim().replace(FOLDER, folder.toString()));
            }
        }
        return found;
    }

    /** What the commands print, one behind the other; each has to end with 0. */
    private static String runAll(List<String> commands) throws IOException, InterruptedException {
        StringBuilder printed = new StringBuilder();
        for (String command : commands) {
            Process process = new ProcessBuilder("sh", "-c", command).redirectError(ProcessBuilder.Redirect.INHERIT).start();
            printed.append(new String(process.getInputStream().readAllBytes()));
            CHECK.due(command + " ended with", process.waitFor(), 0);
        }
        return printed.toString();
    }

    private static void remove(Path folder) throws IOException {
        try (Stream<Path> all = Files.walk(folder)) {
            for (Path path : all.sorted(Comparator.reverseOrder()).toList()) {
                Files.delete(path);
            }
        }
    }
}
