import java.io.IOException;
import java.nio.file.Files;
import java.nio.file.Path;
import java.util.regex.Matcher;
import java.util.regex.Pattern;

/** The examples of README.md: their lines stand in this file, and each answers what README.md tells. */
public final class ReadmeTest {
    private static final Check check = new Check();

    private ReadmeTest() {
    }

    public static void main(String[] args) throws IOException {
        check.about("README.md");
        sameLines();
        answers();
        check.close();
    }

    /**
     * Each call of README.md is made in this file, in the same order, and the number behind it (if one
     * is told) is the one that is due here.
     */
    private static void sameLines() throws IOException {
        String here = Files.readString(Path.of("src/test/java/ReadmeTest.java"));
        boolean inCode = false;
        int from = here.indexOf("void answers()");
        for (String line : Files.readAllLines(Path.of("README.md"))) {
            if (line.startsWith("```")) {
                inCode = line.equals("```java");
                continue;
            }
            if (inCode) {
                String call = line.replaceAll("; *//.*|;$", "").replaceAll("^int \\w+ = ", "");
                int at = here.indexOf(call, from);
                check.due("line " + call, at >= 0, true);
                check.due("what is told of " + call, tellsTheSame(line, lineAt(here, Math.max(at, from))), true);
                from = Math.max(at + call.length(), from);
            }
        }
    }

    private static String lineAt(String text, int at) {
        return text.substring(text.lastIndexOf('\n', at) + 1, text.indexOf('\n', at));
    }

    private static boolean tellsTheSame(String told, String due) {
        Matcher first = Pattern.compile("// (-?\\d+|true|false)\\b").matcher(told);
        return !first.find() || due.contains("due(" + first.group(1) + ", ")
            || due.endsWith(", " + first.group(1) + ");");
    }

    private static void answers() {
        ManyEyes eyes = new ManyEyes();
        int galaxy = due(0, eyes.question(2, ManyEyes.NONE, 0));
        int arms = due(1, eyes.question(4, galaxy, 1));
        due(10, eyes.things(10));
        int ann = due(0, eyes.judge());
        int bob = due(1, eyes.judge());
        due(1, eyes.know(0, galaxy, 1));
        due(0, eyes.answer(ann, 0, galaxy, 1, 8));
        due(1, eyes.answer(bob, 0, galaxy, 0, 2));
        due(0, eyes.answer(ann, 1, galaxy, 1, 9));
        due(2, eyes.reckon(false));
        due(3, eyes.top(ann, galaxy, 1, 1));
        due(4, eyes.bottom(ann, galaxy, 1));
        due(600000, eyes.share(1, galaxy, 1));
        due(1, eyes.leading(1, galaxy));
        check.due("ended", eyes.is(1, 1, galaxy), false);
        check.due("open", eyes.is(0, 0, arms), true);
        due(20, eyes.next(ann));
        due(125000, eyes.gain(ann, 2, galaxy));
        due(5600, eyes.total(galaxy, 1));
        due(-1, eyes.answer(ann, 10, galaxy, 1, 9));
        due(1, eyes.status(11));
        fromRow(eyes, galaxy, bob);
    }

    private static void fromRow(ManyEyes eyes, int galaxy, int bob) {
        due(1, eyes.row(0, 2, 10));
        due(1, eyes.set(0, 0, bob));
        due(1, eyes.set(0, 1, 1));
        due(1, eyes.set(0, 2, galaxy));
        due(1, eyes.set(0, 3, 1));
        due(1, eyes.set(0, 4, 7));
        due(1, eyes.copy(0, 0, 0, 5, 5));
        due(1, eyes.set(0, 6, 2));
        due(2, eyes.answers(0));
        due(1, eyes.show(1, bob));
        due(2, eyes.countsIn(1));
    }

    private static int due(int want, int got) {
        check.due("a call that tells " + want, got, want);
        return got;
    }
}
