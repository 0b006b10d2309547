import java.io.IOException;
import java.lang.reflect.Method;
import java.lang.reflect.Modifier;
import java.nio.file.DirectoryStream;
import java.nio.file.Files;
import java.nio.file.Path;
import java.util.ArrayList;
import java.util.List;

/** README.md tells the truth: its example answers what stands behind it, and no call or test is left out. */
public final class ReadmeTest {
    private static final Path PAGE = Path.of("README.md");
    private static final Path TESTS = Path.of("src", "test", "java");

    private final Check check = new Check();
    private final List<String> lines;
    private int at;

    private ReadmeTest() throws IOException {
        lines = Files.readAllLines(PAGE);
        at = lines.indexOf("BasketryOffice office = new BasketryOffice();");
    }

    public static void main(String[] args) throws IOException {
        ReadmeTest test = new ReadmeTest();
        test.example();
        test.calls();
        test.tests();
        test.check.end("ReadmeTest");
    }

    private void example() {
        BasketryOffice office = new BasketryOffice();
        int bread = office.item(0, BasketryOffice.CARLI, 4095);
        line("int bread = office.item(0, BasketryOffice.CARLI, 4095);", bread);
        line("office.quote(bread, 0, 250, 500);", office.quote(bread, 0, 250, 500));
        line("office.publish();", office.publish());
        int wage = office.contract(100000, 0, 20, true);
        line("int wage = office.contract(100000, 0, 20, true);", wage);
        line("office.quote(bread, 0, 300, 500);", office.quote(bread, 0, 300, 500));
        line("office.publish();", office.publish());
        line("office.relative(bread, 1);", office.relative(bread, 1));
        line("office.index(0, 1);", office.index(0, 1));
        line("office.ofContract(wage, 0);", office.ofContract(wage, 0));
        line("office.fix(1, bread, 0, 275);", office.fix(1, bread, 0, 275));
        line("office.corrected(0, 1);", office.corrected(0, 1));
        line("office.index(0, 1);", office.index(0, 1));
        line("office.owed(wage);", office.owed(wage));
        line("```");
    }

    /** The next line of the example must be this call, with this answer behind it. */
    private void line(String call, Object answer) {
        line(call + " // " + answer);
    }

    /** Words behind the answer, and how far the answers stand to the right, are free. */
    private void line(String due) {
        at++;
        String shown = at < lines.size() ? lines.get(at) : "";
        check.due("README.md, line " + (at + 1), shown.replaceAll("\\s*//", " //").replaceAll("(// [^:]*):.*", "$1"), due);
    }

    private void calls() {
        List<String> missing = new ArrayList<>();
        for (Method each : BasketryOffice.class.getDeclaredMethods()) {
            if (Modifier.isPublic(each.getModifiers()) && !isShown("`" + each.getName() + "(")) {
                missing.add(each.getName());
            }
        }
        check.due("calls that README.md leaves out", missing, List.of());
    }

    private void tests() throws IOException {
        List<String> missing = new ArrayList<>();
        try (DirectoryStream<Path> files = Files.newDirectoryStream(TESTS, "*Test.java")) {
            for (Path file : files) {
                String name = file.getFileName().toString().replace(".java", "");
                if (!isShown("- `" + name + "`: ")) {
                    missing.add(name);
                }
            }
        }
        check.due("tests that README.md leaves out", missing, List.of());
    }

    private boolean isShown(String words) {
        return lines.stream().anyMatch(each -> each.contains(words));
    }
}
