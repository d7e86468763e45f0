import java.io.IOException;
import java.net.URL;
import java.net.URLClassLoader;
import java.nio.file.Files;
import java.nio.file.Path;
import java.util.ArrayList;
import java.util.Comparator;
import java.util.List;
import java.util.Set;
import java.util.TreeSet;
import java.util.regex.MatchResult;
import java.util.regex.Matcher;
import java.util.regex.Pattern;
import java.util.stream.Collectors;
import java.util.stream.Stream;
import javax.tools.ToolProvider;

/**
 * What README.md shows: every block of Java in it is compiled as it stands and run, each call
 * must answer what stands behind it, and the table of tests must name those that there are.
 */
public final class ReadmeTest {
    private static final String BEGIN = "DeedBench bench = new DeedBench();";
    private static final Pattern CALL = Pattern.compile(
        "(?:int (\\w+) = )?(bench\\.(\\w+)\\([^()]*\\)); +// (NONE|true|false|\\d+)(?:: \\S.*)?");
    private static final Pattern TEST = Pattern.compile("(?m)^\\| `(\\w+Test)` \\|");
    private static final Check check = new Check("ReadmeTest");

    /** A call that is shown: the line, the method, the variable that takes the answer if any, and the answer. */
    private record Shown(int line, String call, String method, String variable, String due) {
        String code() {
            String taken = variable == null ? "" : "int " + variable + " = " + call + "; ";
            return taken + "answers.add(" + (variable == null ? call : variable) + ");\n";
        }
    }

    public static void main(String[] args) throws IOException, ReflectiveOperationException {
        List<String> lines = Files.readAllLines(Path.of("README.md"));
        List<List<Shown>> blocks = blocks(lines);
        answers(blocks);
        everyMethod(blocks);
        tests(String.join("\n", lines));
        check.yes("how to run the tests", lines.contains(".ci/run"));
        check.end();
    }

    private static List<List<Shown>> blocks(List<String> lines) {
        List<List<Shown>> blocks = new ArrayList<>();
        for (int i = 0; i < lines.size(); i++) {
            if (lines.get(i).equals("```java")) {
                int end = i + lines.subList(i, lines.size()).indexOf("```");
                check.yes("line " + (i + 2) + " makes a bench", lines.get(i + 1).equals(BEGIN));
                blocks.add(block(lines, i + 2, end));
            }
        }
        return blocks;
    }

    private static List<Shown> block(List<String> lines, int from, int to) {
        List<Shown> block = new ArrayList<>();
        for (int i = from; i < to; i++) {
            Matcher call = CALL.matcher(lines.get(i));
            check.yes("line " + (i + 1) + " is a call with its answer: " + lines.get(i), call.matches());
            if (call.matches()) {
                block.add(new Shown(i + 1, call.group(2), call.group(3), call.group(1), call.group(4)));
            }
        }
        check.yes("at most 512 calls ahead of line " + (to + 1), block.size() <= Runs.MOST_CALLS);
        return block;
    }

    private static void answers(List<List<Shown>> blocks) throws IOException, ReflectiveOperationException {
        Path folder = Files.createTempDirectory("readme");
        try {
            compile(folder, blocks);
            for (int i = 0; i < blocks.size(); i++) {
                compare(blocks.get(i), run(folder, i));
            }
        } finally {
            remove(folder);
        }
    }

    /** A method for each block, so that each may use the names that the others use. */
    private static void compile(Path folder, List<List<Shown>> blocks) throws IOException {
        StringBuilder code = new StringBuilder("public final class Shown {\n");
        for (int i = 0; i < blocks.size(); i++) {
            code.append("public static void block" + i + "(java.util.List<Object> answers) {\n" + BEGIN + "\n");
            blocks.get(i).forEach(shown -> code.append(shown.code()));
            code.append("}\n");
        }
        Path file = Files.writeString(folder.resolve("Shown.java"), code.append("}\n"));
        int failed = ToolProvider.getSystemJavaCompiler().run(null, null, null, "--release", "17",
            "-cp", System.getProperty("java.class.path"), "-d", folder.toString(), file.toString());
        check.same("faults in compiling the blocks", failed, 0);
    }

    private static List<Object> run(Path folder, int block) throws IOException, ReflectiveOperationException {
        List<Object> answers = new ArrayList<>();
        try (URLClassLoader loader = new URLClassLoader(new URL[] {folder.toUri().toURL()})) {
            loader.loadClass("Shown").getMethod("block" + block, List.class).invoke(null, answers);
        }
        return answers;
    }

    private static void compare(List<Shown> block, List<Object> answers) {
        for (int i = 0; i < block.size(); i++) {
            Shown shown = block.get(i);
            String due = shown.due.equals("NONE") ? String.valueOf(DeedBench.NONE) : shown.due;
            check.same("line " + shown.line + ": " + shown.call, String.valueOf(answers.get(i)), due);
        }
    }

    private static void remove(Path folder) throws IOException {
        try (Stream<Path> files = Files.walk(folder)) {
            for (Path file : files.sorted(Comparator.reverseOrder()).toList()) {
                Files.delete(file);
            }
        }
    }

    private static void everyMethod(List<List<Shown>> blocks) {
        Set<String> shown = blocks.stream().flatMap(List::stream).map(Shown::method).collect(Collectors.toSet());
        for (String name : FaceTest.names()) {
            check.yes(name + " is shown", shown.contains(name));
        }
    }

    private static void tests(String text) throws IOException {
        Set<String> named = new TreeSet<>();
        TEST.matcher(text).results().map((MatchResult row) -> row.group(1)).forEach(named::add);
        try (Stream<Path> files = Files.list(Path.of("src/test/java"))) {
            files.map(file -> file.getFileName().toString()).filter(name -> name.endsWith("Test.java"))
                .map(name -> name.replace(".java", ""))
                .forEach(name -> check.yes(name + " stands in the table", named.remove(name)));
        }
        check.yes("no such tests: " + named, named.isEmpty());
    }
}
