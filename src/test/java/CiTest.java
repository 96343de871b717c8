import java.io.IOException;
import java.nio.file.Path;

/** .ci/run itself, on small projects: it ends well if every test does, and fails if one fails. */
public final class CiTest {
    private static final String PASSES = "System.exit(new DuneBench(4, 2).about(1) == 4 ? 0 : 1);";
    private static final String FAILS = "System.exit(new DuneBench(4, 2).about(1) == 4 ? 1 : 0);";
    private static final String THROWS = "throw new IllegalStateException();";
    private static final String UNREADABLE = "no Java";

    public static void main(String[] args) throws IOException, InterruptedException {
        Checks.mustEnd();
        if (Shell.isWithin()) {
            Checks.due("within another test: not run again", true, true);
        } else {
            due("every test passes", 0, PASSES, PASSES, PASSES);
            due("a test of the project fails", 1, FAILS, PASSES, PASSES);
            due("another test of the project throws", 1, PASSES, THROWS, PASSES);
            due("a test of the project doesn't compile", 1, PASSES, UNREADABLE, PASSES);
            due("a shared test fails", 1, PASSES, PASSES, FAILS);
            due("a shared test doesn't compile", 1, PASSES, PASSES, UNREADABLE);
            due("there is no shared test", 1, PASSES, PASSES, "");
        }
        Checks.close("CiTest");
    }

    private static void due(String what, int code, String own, String other, String shared)
            throws IOException, InterruptedException {
        Shell shell = new Shell();
        shell.bring(".ci");
        shell.bring("src/main");
        test(shell, shell.project.resolve("src/test/java"), "OwnTest", own);
        test(shell, shell.project.resolve("src/test/java"), "PaceTest", other);
        if (!shared.isEmpty()) {
            test(shell, shell.shared.resolve("tests"), "Runs", shared);
        }
        Shell.Answer answer = shell.give(".ci/run");
        Checks.due("what .ci/run must do: " + what, code, answer.code());
        shell.remove();
    }

    private static void test(Shell shell, Path directory, String name, String does) throws IOException {
        shell.write(directory.resolve(name + ".java"),
                "public final class " + name + " { public static void main(String[] args) { " + does + " } }\n");
    }
}
