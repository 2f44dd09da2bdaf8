import java.io.IOException;
import java.nio.file.Files;
import java.nio.file.Path;
import java.util.ArrayList;
import java.util.List;

/** The example of README.md: each of its calls, in its order, answers what README.md says behind it. */
public final class ReadmeTest {
    private static final Check check = new Check();
    private static final List<String> lines = new ArrayList<>();
    private static int next;

    public static void main(String[] args) throws IOException {
        for (String line : Files.readAllLines(Path.of("README.md"))) {
            if (line.contains("sets.") && line.contains("//")) {
                lines.add(line);
            }
        }
        check.sentence("README.md, the example");
        TriangleSets sets = new TriangleSets();
        theSet(sets);
        theProofs(sets);
        thePoint(sets);
        theCondition(sets);
        check.due("calls of the example", lines.size(), next);
        check.end();
    }

    private static void theSet(TriangleSets sets) {
        said("variable(true)", sets.variable(true));
        said("variable(false)", sets.variable(false));
        said("polynomial()", sets.polynomial());
        said("term(given, 2, 0x10)", sets.term(0, 2, 0x10));
        said("term(given, -1, 0x01)", sets.term(0, -1, 0x01));
        said("use(given, true)", sets.use(0, true));
        said("decompose()", sets.decompose());
        said("told(3)", sets.told(3));
        said("member(0, 0)", sets.member(0, 0));
    }

    private static void theProofs(TriangleSets sets) {
        said("polynomial()", sets.polynomial());
        said("term(wanted, 4, 0x20)", sets.term(1, 4, 0x20));
        said("term(wanted, -1, 0x02)", sets.term(1, -1, 0x02));
        said("prove(wanted)", sets.prove(1));
        said("term(wanted, 5, 0x00)", sets.term(1, 5, 0x00));
        said("prove(wanted)", sets.prove(1));
        said("told(9)", sets.told(9));
        said("coefficient(3, 0, 0)", sets.coefficient(3, 0, 0));
        said("powers(3, 0, 0)", sets.powers(3, 0, 0));
    }

    private static void thePoint(TriangleSets sets) {
        said("point(a, 3)", sets.point(0, 3));
        said("point(x, 7)", sets.point(1, 7));
        said("member(0, 3)", sets.member(0, 3));
        said("value(2, 0)", sets.value(2, 0));
        said("value(0, wanted)", sets.value(0, 1));
        said("quotient(0)", sets.quotient(0));
        said("value(1, 0)", sets.value(1, 0));
        said("value(3, 0)", sets.value(3, 0));
        check.due("the identity", 2 * 2 * sets.value(0, 1), sets.quotient(0) * sets.value(1, 0) + sets.value(3, 0));
    }

    private static void theCondition(TriangleSets sets) {
        said("polynomial()", sets.polynomial());
        said("term(sure, -6, 0x01)", sets.term(2, -6, 0x01));
        said("use(sure, true)", sets.use(2, true));
        said("prove(wanted)", sets.prove(1));
        said("decompose()", sets.decompose());
        said("coefficient(4, 0, 0)", sets.coefficient(4, 0, 0));
        said("powers(4, 0, 0)", sets.powers(4, 0, 0));
    }

    private static void said(String call, Object answer) {
        String line = next < lines.size() ? lines.get(next) : "";
        next++;
        check.due("line " + next + " calls " + call, line.contains("sets." + call + ";"), true);
        String[] words = line.replaceFirst(".*// ", "").split("[ ,:]");
        check.due("line " + next + ", " + call, words[0], answer.toString());
    }
}
