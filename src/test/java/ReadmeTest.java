import java.io.File;
import java.io.IOException;
import java.lang.reflect.Method;
import java.lang.reflect.Modifier;
import java.nio.file.Files;
import java.nio.file.Path;
import java.util.List;

/** README.md tells the example's answers, every call of the face and every test of the project. */
public final class ReadmeTest {
    private final List<String> lines;

    private ReadmeTest(List<String> lines) {
        this.lines = lines;
    }

    public static void main(String[] args) throws IOException {
        ReadmeTest readme = new ReadmeTest(Files.readAllLines(Path.of("README.md")));
        readme.example();
        readme.calls();
        readme.tests();
        Checks.end();
    }

    private void example() {
        String text = "S 0 1 25\nH 0 2 3\nM 0 400\nV 0 30 10\n";
        Checks.due("README.md has the example's text", hasLineWith(escaped(text)), true);
        StorageCharge x = Checks.told(new StorageCharge(), text);
        answers("x.read();", x.read());
        int unit = x.unit(0, 1, 0);
        answers("int unit = x.unit(0, 1, 0);", unit);
        answers("x.move(0, 2, 29, 9);", x.move(0, 2, 29, 9));
        answers("x.sum(0, 0);", x.sum(0, 0));
        answers("x.bill(0, 0);", x.bill(0, 0));
        answers("x.gone(unit, 3);", x.gone(unit, 3));
        answers("x.correct(0, 0);", x.correct(0, 0));
        answers("x.print(0);", x.print(0));
        answers("x.at(2);", x.at(2));
        Checks.due("README.md has what is printed", hasLineWith(escaped(Checks.paper(x))), true);
    }

    /** The comment behind the call starts with its answer. */
    private void answers(String call, int answer) {
        String told = "no such line";
        for (String line : lines) {
            if (line.startsWith(call)) {
                told = line.substring(call.length()).trim().split("[ ,:]+")[1];
            }
        }
        Checks.due("README.md on " + call, told, String.valueOf(answer));
    }

    private void calls() {
        for (Method m : StorageCharge.class.getDeclaredMethods()) {
            if (Modifier.isPublic(m.getModifiers())) {
                String row = "| `" + m.getName() + "(";
                Checks.due("README.md has a row " + row, hasLineWith(row), true);
            }
        }
    }

    private void tests() {
        String[] files = new File("src/test/java").list((where, name) -> name.endsWith("Test.java"));
        Checks.due("the tests are found", files != null && files.length > 0, true);
        for (String file : files == null ? new String[0] : files) {
            String row = "| `" + file.replace(".java", "") + "` |";
            Checks.due("README.md has a row " + row, hasLineWith(row), true);
        }
    }

    private boolean hasLineWith(String part) {
        for (String line : lines) {
            if (line.contains(part)) {
                return true;
            }
        }
        return false;
    }

    private static String escaped(String text) {
        return "\"" + text.replace("\n", "\\n") + "\"";
    }
}
