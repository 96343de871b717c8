import java.io.IOException;
import java.nio.file.Files;
import java.nio.file.Path;
import java.util.ArrayList;
import java.util.List;
import java.util.stream.Stream;

/** README.md: the commands by which it says to compile and use the class, and to run its tests, do so. */
public final class ReadmeTest {
    /** A block between lines of three marks: its language, and its lines. */
    private record Block(String language, List<String> lines) { }

    public static void main(String[] args) throws IOException, InterruptedException {
        Checks.mustEnd();
        List<Block> blocks = blocks();
        commands(blocks);
        exampleIsTheFile(blocks);
        testsAreNamed();
        callsAreNamed();
        if (!Shell.isWithin()) {
            commandsDoSo(blocks);
        }
        Checks.close("ReadmeTest");
    }

    private static List<Block> blocks() throws IOException {
        List<Block> blocks = new ArrayList<>();
        Block open = null;
        for (String line : Files.readAllLines(Path.of("README.md"))) {
            if (open == null && line.startsWith("```")) {
                open = new Block(line.substring(3), new ArrayList<>());
            } else if (open != null && line.equals("```")) {
                blocks.add(open);
                open = null;
            } else if (open != null) {
                open.lines().add(line);
            }
        }
        Checks.due("every block has an end", true, open == null);
        return blocks;
    }

    /** What the page must say: how to compile the class, how to use it, how to run its tests. */
    private static void commands(List<Block> blocks) {
        List<String> all = new ArrayList<>();
        for (Block b : blocks) {
            if (b.language().equals("sh")) {
                all.addAll(b.lines());
            }
        }
        String[] musts = {"javac -d out src/main/java/DuneBench.java", "java -cp out Shore", ".ci/run"};
        for (String must : musts) {
            Checks.due("README.md says " + must, true, all.contains(must));
        }
    }

    /** Each line of a shell's block ends well; what the last one prints is the text block behind it, if there is one. */
    private static void commandsDoSo(List<Block> blocks) throws IOException, InterruptedException {
        Shell shell = new Shell();
        for (String name : new String[] {"README.md", ".ci", "src"}) {
            shell.bring(name);
        }
        Files.createSymbolicLink(shell.shared, Path.of("../shared").toRealPath());
        String told = "";
        for (Block b : blocks) {
            if (b.language().equals("text")) {
                Checks.due("README.md tells what is printed:\n" + told, true, told.strip().equals(String.join("\n", b.lines())));
            }
            for (int i = 0; b.language().equals("sh") && i < b.lines().size(); i++) {
                Shell.Answer answer = shell.give(b.lines().get(i));
                told = answer.text();
                Checks.due(b.lines().get(i) + " (its exit code)", 0, answer.code());
                if (answer.code() != 0) {
                    System.out.println(told);
                }
            }
        }
        shell.remove();
    }

    private static void exampleIsTheFile(List<Block> blocks) throws IOException {
        List<String> file = Files.readAllLines(Path.of("src/example/java/Shore.java"));
        int same = 0;
        for (Block b : blocks) {
            same += b.language().equals("java") && b.lines().equals(file) ? 1 : 0;
        }
        Checks.due("the program of README.md is src/example/java/Shore.java", 1, same);
    }

    private static void testsAreNamed() throws IOException {
        String page = Files.readString(Path.of("README.md"));
        try (Stream<Path> tests = Files.list(Path.of("src/test/java"))) {
            for (Path test : tests.toList()) {
                String name = test.getFileName().toString().replace(".java", "");
                Checks.due("README.md names " + name, true, !name.endsWith("Test") || page.contains("`" + name + "`"));
            }
        }
    }

    private static void callsAreNamed() throws IOException {
        String page = Files.readString(Path.of("README.md"));
        String[] calls = {"new DuneBench(wide, high)", "heap(cell, v)", "lay(cell, what, v)",
            "rules(hop, lay, bare, slope, supply)", "seed(s)", "feed(a, b, c, d, e)", "end(n)", "winds()", "fault(what)",
            "days(n)", "storm(k)", "cell(cell, what)", "work(kind, cell, v, cost)", "drop()", "best(money, n)",
            "bestSet(money, n)", "mark()", "flight(cell, seen, miss)", "fits(n)", "about(what)"};
        for (String call : calls) {
            Checks.due("README.md tells of " + call, true, page.contains("| `" + call + "` |"));
        }
    }
}
