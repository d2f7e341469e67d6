import java.io.IOException;
import java.nio.file.Path;
import java.util.Set;
import java.util.TreeSet;
import java.util.function.Supplier;
import java.util.function.ToLongFunction;

/**
 * Tests that each stand for one sentence of the document. The words must stand in the section that
 * is named, each test must look at something, and what the machine throws is a wrong answer.
 */
final class Sentences {
    private final Check check = new Check();
    private final Doc doc;
    private final Set<String> sections = new TreeSet<>();

    Sentences() throws IOException {
        doc = Doc.read(Path.of("../shared/DOC.md"));
    }

    void says(String section, String words, Runnable test) {
        check.about(section + ": " + words);
        sections.add(section);
        due("the document says so", doc.says(section, words), true);
        int before = check.count();
        try {
            test.run();
        } catch (RuntimeException thrown) {
            System.out.println(thrown);
            due("something was thrown", true, false);
        }
        due("something was looked at", check.count() > before, true);
    }

    void due(String call, long got, long want) {
        check.due(call, got, want);
    }

    void due(String call, boolean got, boolean want) {
        check.due(call, got, want);
    }

    /** A call that is refused: its number, one refusal more of that number, and nothing else. */
    void refused(String call, int want, Supplier<ManyEyes> room, ToLongFunction<ManyEyes> one) {
        ManyEyes x = room.get();
        ManyEyes untouched = room.get();
        due(call, one.applyAsLong(x), want);
        counted(call, x, untouched, want);
    }

    /** A call that answers a number, but changes nothing and isn't counted as refused. */
    void nothing(String call, long want, Supplier<ManyEyes> room, ToLongFunction<ManyEyes> one) {
        ManyEyes x = room.get();
        ManyEyes untouched = room.get();
        due(call, one.applyAsLong(x), want);
        counted(call, x, untouched, 0);
    }

    private void counted(String call, ManyEyes x, ManyEyes untouched, int refusal) {
        for (int r = 1; r <= 7; r++) {
            due(call + ", refusals -" + r, x.status(10 + r) - untouched.status(10 + r), refusal == -r ? 1 : 0);
        }
        due(call + " changes nothing", Seen.of(x).equals(Seen.of(untouched)), true);
    }

    boolean spokeOf(String section) {
        return sections.contains(section);
    }

    void close() {
        check.close();
    }
}
