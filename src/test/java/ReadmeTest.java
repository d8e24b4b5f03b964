import java.io.IOException;
import java.lang.reflect.Method;
import java.lang.reflect.Modifier;
import java.nio.file.Files;
import java.nio.file.Path;
import java.util.List;

/** README.md tells the truth: its example's answers, and a row of its table for every call. */
public final class ReadmeTest {
    private final Check check = new Check();
    private final List<String> lines;
    private int next = 0;

    private ReadmeTest(List<String> lines) {
        this.lines = lines;
    }

    public static void main(String[] args) throws IOException {
        ReadmeTest test = new ReadmeTest(Files.readAllLines(Path.of("README.md")));
        test.example();
        test.table();
        test.check.end();
    }

    private void example() {
        PackSeeds x = new PackSeeds(2, 4);
        says("int p = x.pattern()", x::pattern);
        says("x.care(p, 0, 0, 1)", () -> x.care(0, 0, 0, 1));
        says("x.care(p, 1, 2, 0)", () -> x.care(0, 1, 2, 0));
        says("x.seed(p)", () -> x.seed(0));
        says("x.seedOf(p)", () -> x.seedOf(0));
        says("x.bit(p, 1, 3)", () -> x.bit(0, 1, 3));
        says("x.shifts(p)", () -> x.shifts(0));
        says("x.mask(p, 1, 3)", () -> x.mask(0, 1, 3));
        says("x.found(p, 7)", () -> x.found(0, 7));
        says("int q = x.pattern()", x::pattern);
        says("x.care(q, 0, 1, 1)", () -> x.care(1, 0, 1, 1));
        says("x.found(q, 7)", () -> x.found(1, 7));
        says("x.finders(7)", () -> x.finders(7));
        says("x.fill(2)", () -> x.fill(2));
        says("x.bit(q, 0, 3)", () -> x.bit(1, 0, 3));
        says("x.signature(0, 23)", () -> x.signature(0, 23));
        says("x.join()", x::join);
        says("x.seedOf(p)", () -> x.seedOf(0));
        says("x.drop()", x::drop);
        says("x.count(2)", () -> x.count(2));
        x.degree(3);
        says("x.machine(1, true)", () -> x.machine(1, true));
        says("x.primitive()", x::primitive);
        says("x.alias(5, 0)", () -> x.alias(5, 0));
        says("x.alias(5, 1)", () -> x.alias(5, 1));
    }

    /** The next line of README.md with this code has, behind it, the answer up to a colon. */
    private void says(String code, Check.Call made) {
        check.due("README's " + code, answerBehind(code), made);
    }

    private String answerBehind(String code) {
        while (next < lines.size()) {
            String line = lines.get(next);
            next++;
            if (line.startsWith(code + ";")) {
                String said = line.substring(line.indexOf("//") + 2);
                return said.split(":")[0].trim();
            }
        }
        return "a line that README.md does not have";
    }

    private void table() {
        for (Method m : PackSeeds.class.getDeclaredMethods()) {
            if (Modifier.isPublic(m.getModifiers())) {
                check.due("a row of README's table for " + m.getName(), true, () -> hasRow(m.getName()));
            }
        }
    }

    private boolean hasRow(String name) {
        for (String line : lines) {
            if (line.startsWith("| `") && line.contains("`" + name + "(")) {
                return true;
            }
        }
        return false;
    }
}
