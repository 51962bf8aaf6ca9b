import java.io.IOException;
import java.nio.file.Files;
import java.nio.file.Path;
import java.nio.file.Paths;
import java.util.ArrayList;
import java.util.Collections;
import java.util.Comparator;
import java.util.List;
import java.util.TreeSet;
import java.util.regex.Matcher;
import java.util.regex.Pattern;
import java.util.stream.Collectors;
import java.util.stream.Stream;

/** README.md: that it is there, that its commands run, that its example answers what it says, that its table names every test. */
public final class ReadmeTest {
    private static final Path README = Paths.get("README.md");
    private static final Path TESTS = Paths.get("src/test/java");
    private static final String RUNS_ALL = ".ci/run";
    private static final int PROMISES = 42;

    public static void main(String[] args) throws IOException, InterruptedException {
        Check.holds("README.md is there", Files.isRegularFile(README));
        if (Files.isRegularFile(README)) {
            List<String> lines = Files.readAllLines(README);
            Path scratch = Files.createTempDirectory("readme");
            try {
                copy(Paths.get("src"), scratch.resolve("src"));
                commands(blocks(lines, "sh"), scratch);
                example(blocks(lines, "java"), scratch);
            } finally {
                remove(scratch);
            }
            table(lines);
        }
        Check.end("ReadmeTest");
    }

    /** The texts that stand behind ``` and a language. */
    private static List<String> blocks(List<String> lines, String language) {
        List<String> blocks = new ArrayList<>();
        StringBuilder block = null;
        for (String line : lines) {
            if (block == null && line.equals("```" + language)) {
                block = new StringBuilder();
            } else if (block != null && line.equals("```")) {
                blocks.add(block.toString());
                block = null;
            } else if (block != null) {
                block.append(line).append('\n');
            }
        }
        return blocks;
    }

    private static void commands(List<String> blocks, Path scratch) throws IOException, InterruptedException {
        Check.holds("commands for one test, too", blocks.size() >= 2);
        Check.text("the first command", RUNS_ALL + "\n", blocks.isEmpty() ? "" : blocks.get(0));
        Check.holds(RUNS_ALL + " can be run", Files.isExecutable(Paths.get(RUNS_ALL)));
        // the first one is what runs this test: it would never end
        for (int i = 1; i < blocks.size(); i++) {
            String block = blocks.get(i);
            Check.holds("it runs a test: " + block, block.contains("java -cp "));
            Check.due("exit code of " + block, 0, run(scratch, "sh", "-e", "-c", block));
        }
    }

    private static void example(List<String> blocks, Path scratch) throws IOException, InterruptedException {
        Check.due("examples", 1, blocks.size());
        StringBuilder source = new StringBuilder("public final class Example {\n");
        source.append("static int wrong;\n");
        source.append("static void due(String name, int got, int want) {\n");
        source.append("if (got != want) { wrong++; System.out.println(name + \" is \" + got + \", not \" + want); } }\n");
        source.append("public static void main(String[] args) {\n");
        int told = 0;
        Pattern answer = Pattern.compile("int (\\w+) = .*; +// (-?\\d+)\\b.*");
        for (String line : String.join("", blocks).split("\n")) {
            source.append(line).append('\n');
            Matcher m = answer.matcher(line);
            if (m.matches()) {
                told++;
                source.append("due(\"").append(m.group(1)).append("\", ").append(m.group(1)).append(", ").append(m.group(2)).append(");\n");
            }
        }
        source.append("if (wrong > 0) { System.exit(1); } } }\n");
        Check.holds("answers in the example", told >= 3);
        Files.write(scratch.resolve("Example.java"), source.toString().getBytes());
        String build = "javac -d example src/main/java/SnapHeaps.java Example.java src/test/java/help/*.java";
        Check.due("the example compiles", 0, run(scratch, "sh", "-c", build));
        Check.due("the example's answers", 0, run(scratch, "java", "-cp", "example", "Example"));
    }

    /** Each test has a row, each row a test, each promise a row. */
    private static void table(List<String> lines) throws IOException {
        TreeSet<String> named = new TreeSet<>();
        TreeSet<Integer> promises = new TreeSet<>();
        Pattern row = Pattern.compile("\\| `(\\w+Test)` \\| (.*) \\|");
        for (String line : lines) {
            Matcher m = row.matcher(line);
            if (m.matches()) {
                Check.holds("one row for " + m.group(1), named.add(m.group(1)));
                promises.addAll(numbers(m.group(2)));
            }
        }
        try (Stream<Path> files = Files.list(TESTS)) {
            TreeSet<String> there = files.map(f -> f.getFileName().toString()).filter(f -> f.endsWith(".java"))
                .map(f -> f.substring(0, f.length() - 5)).collect(Collectors.toCollection(TreeSet::new));
            Check.text("the tests that README.md names", there.toString(), named.toString());
        }
        for (int i = 1; i <= PROMISES; i++) {
            Check.holds("a test for promise " + i, promises.contains(i));
        }
    }

    /** Those of a list such as "1, 3 to 5, 8". */
    private static List<Integer> numbers(String list) {
        List<Integer> all = new ArrayList<>();
        Matcher m = Pattern.compile("(\\d+)(?: to (\\d+))?").matcher(list);
        while (m.find()) {
            int least = Integer.parseInt(m.group(1));
            int most = m.group(2) == null ? least : Integer.parseInt(m.group(2));
            for (int i = least; i <= most; i++) {
                all.add(i);
            }
        }
        return all;
    }

    /** The exit code; what the command prints is told if it is not 0. */
    private static int run(Path in, String... command) throws IOException, InterruptedException {
        Path printed = in.resolve("printed");
        Process process = new ProcessBuilder(command).directory(in.toFile()).redirectErrorStream(true)
            .redirectOutput(printed.toFile()).start();
        int code = process.waitFor();
        if (code != 0) {
            System.out.println(new String(Files.readAllBytes(printed)));
        }
        return code;
    }

    private static List<Path> below(Path folder) throws IOException {
        try (Stream<Path> all = Files.walk(folder)) {
            return all.sorted(Comparator.naturalOrder()).collect(Collectors.toList());
        }
    }

    private static void copy(Path from, Path to) throws IOException {
        for (Path file : below(from)) {
            Files.copy(file, to.resolve(from.relativize(file)));
        }
    }

    private static void remove(Path folder) throws IOException {
        List<Path> all = below(folder);
        Collections.reverse(all);
        for (Path file : all) {
            Files.delete(file);
        }
    }
}
