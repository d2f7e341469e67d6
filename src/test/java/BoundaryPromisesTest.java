import java.io.IOException;

/** Each sentence of the refusals and of the promises that names a boundary case has a test of its own. */
public final class BoundaryPromisesTest {
    private static final int NONE = ManyEyes.NONE;
    private static final int LEAST = Integer.MIN_VALUE;
    private static final int MOST = Integer.MAX_VALUE;
    private static final int[] NO_SHELF = {-1, 8, LEAST, MOST};
    private static final int[] BELOW = {-1, LEAST};
    // Of Rooms.busy(): 2 has left, 3 was never there.
    private static final int[] NO_JUDGE = {2, 3, -1, 24, LEAST, MOST};
    private static final int[] NO_THING = {-1, 3, 40, LEAST, MOST};
    private static final int[] NO_QUESTION = {-1, 2, 5, LEAST, MOST};
    private static final int[] NO_ANSWER_OF_TWO = {-1, 2, 4, LEAST, MOST};
    private static final int[] NO_ANSWER_OF_THREE = {-1, 3, 4, LEAST, MOST};

    private final Sentences say = new Sentences();

    private BoundaryPromisesTest() throws IOException {
    }

    public static void main(String[] args) throws IOException {
        BoundaryPromisesTest test = new BoundaryPromisesTest();
        test.face();
        test.refusals();
        test.newObject();
        test.row();
        test.set();
        test.copy();
        test.element();
        test.show();
        test.holds();
        test.countsIn();
        test.question();
        test.thingsAndJudges();
        test.know();
        test.answer();
        test.answers();
        test.restAndLeave();
        test.bar();
        test.reckon();
        test.changedAndAgreed();
        test.topAndBottom();
        test.shareAndLeading();
        test.is();
        test.looks();
        test.how();
        test.copied();
        test.next();
        test.gain();
        test.total();
        test.status();
        for (int promise = 1; promise <= 32; promise++) {
            test.say.due("Promise " + promise + " is spoken of", test.say.spokeOf("Promise " + promise), true);
        }
        test.say.close();
    }

    private void due(String call, long got, long want) {
        say.due(call, got, want);
    }

    private void due(String call, boolean got, boolean want) {
        say.due(call, got, want);
    }

    private void face() {
        say.says(Doc.FACE, "public static final int NONE = -1", () -> due("NONE", ManyEyes.NONE, -1));
        say.says(Doc.TOP, "An object is used for at most 512 calls after it has been made", () -> {
            // 26 calls, 478 answers, and eight that look: the 512th still answers as it should.
            ManyEyes x = Rooms.made(2, 40, 24);
            for (int k = 0; k < 478; k++) {
                x.answer(k % 24, k / 24, 0, k % 2, 9);
            }
            x.know(39, 0, 1);
            due("answers", x.status(7), 478);
            due("steps", x.reckon(false) > 1, true);
            due("changed", x.changed(0), 20);
            due("agreed", x.status(5), 20);
            due("looks", x.looks(19, 0) + x.looks(0, 0), 2 + 2);
            due("the 512th", x.leave(23), 19);
        });
        say.says(Doc.TOP, "An object is used for at most 512 calls", () -> {
            ManyEyes x = new ManyEyes();
            for (int k = 0; k < 511; k++) {
                x.rest(0);
            }
            due("511 refusals", x.status(11), 511);
        });
    }

    // The order is tried where two of them fit one call; each of them alone at its promise.
    private void refusals() {
        String words = "(the call answers the number; nothing changes but how many there were; "
            + "the first that fits, in this order)";
        say.says("Refusals", words, () -> {
            say.refused("NOBODY ahead of OTHER", -1, Rooms::busy, x -> x.copy(2, 8, 0, 0, 1));
            say.refused("NOBODY ahead of NOTHING", -1, Rooms::busy, x -> x.copy(-1, 3, 0, 0, 1));
            say.refused("NOBODY ahead of BELOW", -1, Rooms::busy, x -> x.row(8, 0, -1));
            say.refused("NOBODY ahead of BEYOND", -1, Rooms::busy, x -> x.set(8, -1, 0));
            say.refused("NOBODY ahead of WRONG", -1, Rooms::busy, x -> x.know(3, 0, 2));
            say.refused("NOBODY ahead of ROOM", -1, BoundaryPromisesTest::fiveQuestions, x -> x.question(2, 5, 0));
            say.refused("OTHER ahead of NOTHING", -2, Rooms::busy, x -> x.copy(3, 2, 0, 0, 1));
            say.refused("OTHER ahead of BELOW", -2, Rooms::busy, x -> x.copy(0, 1, 0, 0, -1));
            say.refused("OTHER ahead of BEYOND", -2, Rooms::busy, x -> x.set(2, 100, 0));
            say.refused("NOTHING ahead of BELOW", -3, Rooms::busy, x -> x.copy(0, 3, 0, 0, -1));
            say.refused("NOTHING ahead of BEYOND", -3, Rooms::busy, x -> x.set(3, -1, 0));
            say.refused("BELOW ahead of BEYOND", -4, Rooms::busy, x -> x.copy(0, 7, 9, -9, -1));
            say.refused("BELOW ahead of WRONG", -4, Rooms::busy, x -> x.row(0, 4, -1));
            say.refused("WRONG ahead of ROOM, a ROW", -6, Rooms::busy, x -> x.row(0, 4, 101));
            say.refused("WRONG ahead of ROOM, a QUESTION", -6, BoundaryPromisesTest::fiveQuestions,
                x -> x.question(5, 0, 0));
        });
        say.says("Refusals", "-1 NOBODY: no such SHELF, THING, QUESTION, JUDGE (one that has LEFT, too)", () -> {
            say.refused("a SHELF", -1, Rooms::busy, x -> x.countsIn(8));
            say.refused("a THING", -1, Rooms::busy, x -> x.know(3, 0, 0));
            say.refused("a QUESTION", -1, Rooms::busy, x -> x.know(0, 2, 0));
            say.refused("a JUDGE", -1, Rooms::busy, x -> x.rest(3));
            say.refused("one that has LEFT", -1, Rooms::busy, x -> x.rest(2));
        });
        String other = "-2 OTHER: a SHELF that holds a JUDGE where a ROW is wanted, or the other way about, "
            + "or ROWS of two SORTS";
        say.says("Refusals", other, () -> {
            say.refused("a JUDGE", -2, Rooms::busy, x -> x.answers(2));
            say.refused("a ROW", -2, Rooms::busy, x -> x.countsIn(5));
            say.refused("two SORTS", -2, Rooms::busy, x -> x.copy(0, 1, 0, 0, 1));
        });
        say.says("Refusals", "-3 NOTHING: a SHELF that holds NOTHING", () -> {
            say.refused("for a ROW", -3, Rooms::busy, x -> x.answers(3));
            say.refused("for a JUDGE", -3, Rooms::busy, x -> x.countsIn(3));
        });
        say.says("Refusals", "-4 BELOW: a size below 0",
            () -> say.refused("THINGS", -4, Rooms::busy, x -> x.things(-1)));
        say.says("Refusals", "-5 BEYOND: an element that isn't there",
            () -> say.refused("of three", -5, Rooms::busy, x -> x.set(0, 3, 1)));
        say.says("Refusals", "-6 WRONG: a number that may not be",
            () -> say.refused("MARK", -6, Rooms::busy, x -> x.bar(0, 0)));
        say.says("Refusals", "-7 ROOM: more than may be",
            () -> say.refused("THINGS", -7, Rooms::busy, x -> x.things(38)));
    }

    private static ManyEyes fiveQuestions() {
        ManyEyes x = Rooms.made(2, 2, 2);
        for (int q = 1; q < 5; q++) {
            x.question(2, 0, 1);
        }
        return x;
    }

    private static ManyEyes fullRooms() {
        return Rooms.made(2, 40, 24);
    }

    private void newObject() {
        say.says("Promise 1", "Nothing is there", () -> {
            ManyEyes x = new ManyEyes();
            for (int what = 0; what <= 8; what++) {
                due("status " + what, x.status(what), 0);
            }
            for (int s = 0; s < 8; s++) {
                due("shelf " + s, x.holds(s), NONE);
            }
            due("no case", x.looks(0, 0), NONE);
            due("no question", x.total(0, 0), NONE);
            due("no step", x.changed(0), NONE);
            due("no refusal", Rooms.refusals(x), 0);
            say.refused("no judge", -1, ManyEyes::new, y -> y.rest(0));
            say.refused("no case", -1, ManyEyes::new, y -> y.know(0, 0, 0));
            say.refused("nothing to show", -1, ManyEyes::new, y -> y.show(0, 0));
            say.nothing("a step that finds nothing", 0, ManyEyes::new, y -> y.reckon(true));
        });
        say.says("Promise 1", "Nothing is there", () -> {
            // Two objects share nothing.
            ManyEyes one = Rooms.busy();
            due("another's things", new ManyEyes().status(0), 0);
            due("another's shelf", new ManyEyes().holds(0), NONE);
            due("another's case", Rooms.made(2, 3, 3).share(0, 0, 1), 500000);
            due("its own", one.share(0, 0, 1), 1000000);
        });
    }

    private void row() {
        say.says("Promise 2", "SHELF s holds a new ROW: 1", () -> {
            for (int s = 0; s < 8; s++) {
                for (int n : new int[] {0, 1, 99, 100}) {
                    ManyEyes x = Rooms.busy();
                    due("row", x.row(s, 3, n), 1);
                    due("holds", x.holds(s), 103);
                    due("behind it", x.set(s, n, 1), -5);
                    due("a first element", x.element(s, 0), 0);
                    due("a second element", x.element(s, 1), 0);
                    due("its last", x.set(s, n - 1, 1), n == 0 ? -5 : 1);
                    due("no refusal but these", Rooms.refusals(x), n == 0 ? 2 : 1);
                }
            }
        });
        say.says("Promise 2", "-1", () -> {
            for (int s : NO_SHELF) {
                say.refused("row", -1, Rooms::busy, x -> x.row(s, 0, 1));
                say.refused("row, all wrong", -1, Rooms::busy, x -> x.row(s, 4, -1));
                say.refused("row, too long", -1, Rooms::busy, x -> x.row(s, 0, 101));
            }
        });
        say.says("Promise 2", "-4", () -> {
            for (int n : BELOW) {
                say.refused("row", -4, Rooms::busy, x -> x.row(0, 0, n));
                say.refused("row, no sort", -4, Rooms::busy, x -> x.row(2, 4, n));
            }
        });
        say.says("Promise 2", "-6 SORT", () -> {
            for (int sort : new int[] {-1, 4, LEAST, MOST}) {
                say.refused("row", -6, Rooms::busy, x -> x.row(0, sort, 0));
                say.refused("row, too long", -6, Rooms::busy, x -> x.row(3, sort, 101));
            }
            for (int sort = 0; sort < 4; sort++) {
                ManyEyes x = new ManyEyes();
                due("row", x.row(0, sort, 1), 1);
                due("holds", x.holds(0), 100 + sort);
            }
        });
        say.says("Promise 2", "-7 n above 100", () -> {
            for (int n : new int[] {101, MOST}) {
                say.refused("row", -7, Rooms::busy, x -> x.row(0, 3, n));
            }
            due("100", new ManyEyes().row(0, 3, 100), 1);
        });
    }

    private void set() {
        say.says("Promise 3", "Element i of the ROW becomes v: 1", () -> {
            ManyEyes x = Rooms.busy();
            due("the first", x.set(0, 0, -1), 1);
            due("the last", x.set(0, 2, -3), 1);
            due("first", x.element(0, 0), -1);
            due("the one between", x.element(0, 1), 8);
            due("last", x.element(0, 2), -3);
        });
        say.says("Promise 3", "-1", () -> {
            for (int s : NO_SHELF) {
                say.refused("set", -1, Rooms::busy, x -> x.set(s, 0, 1));
            }
        });
        say.says("Promise 3", "-2", () -> {
            say.refused("a judge", -2, Rooms::busy, x -> x.set(2, 0, 1));
            say.refused("one that has left", -2, Rooms::busy, x -> x.set(4, -1, 1));
        });
        say.says("Promise 3", "-3", () -> say.refused("nothing", -3, Rooms::busy, x -> x.set(3, 0, 1)));
        say.says("Promise 3", "-5", () -> {
            for (int i : new int[] {-1, 3, 100, LEAST, MOST}) {
                say.refused("set", -5, Rooms::busy, x -> x.set(0, i, 1));
            }
            say.refused("in an empty one", -5, Rooms::busy, x -> x.set(5, 0, 1));
        });
    }

    private static ManyEyes twoRows() {
        ManyEyes x = Rooms.made(2, 1, 1);
        x.row(0, 1, 5);
        Rooms.put(x, 0, 0, 1, 2, 3, 4, 5);
        x.row(1, 1, 3);
        Rooms.put(x, 1, 0, 7, 8, 9);
        return x;
    }

    private void rowDue(ManyEyes x, int s, long... want) {
        for (int i = 0; i < want.length; i++) {
            due("element " + s + " " + i, x.element(s, i), want[i]);
        }
    }

    private void copy() {
        say.says("Promise 4", "come to elements j, j + 1, .. of that in q", () -> {
            ManyEyes x = twoRows();
            due("the last of p to the first of q", x.copy(0, 1, 4, 0, 1), 1);
            rowDue(x, 1, 5, 8, 9);
            due("the first of p to the last of q", x.copy(0, 1, 0, 2, 1), 1);
            rowDue(x, 1, 5, 8, 1);
            due("all of q", x.copy(0, 1, 2, 0, 3), 1);
            rowDue(x, 1, 3, 4, 5);
            rowDue(x, 0, 1, 2, 3, 4, 5);
            due("none", x.copy(0, 1, 0, 0, 0), 1);
            rowDue(x, 1, 3, 4, 5);
        });
        say.says("Promise 4", "(as they were ahead)", () -> {
            ManyEyes x = twoRows();
            due("to the right", x.copy(0, 0, 0, 1, 4), 1);
            rowDue(x, 0, 1, 1, 2, 3, 4);
            x = twoRows();
            due("to the left", x.copy(0, 0, 1, 0, 4), 1);
            rowDue(x, 0, 2, 3, 4, 5, 5);
            due("onto itself", x.copy(0, 0, 0, 0, 5), 1);
            rowDue(x, 0, 2, 3, 4, 5, 5);
        });
        say.says("Promise 4", "-1", () -> {
            for (int s : NO_SHELF) {
                say.refused("p", -1, Rooms::busy, x -> x.copy(s, 0, 0, 0, 1));
                say.refused("q", -1, Rooms::busy, x -> x.copy(0, s, 0, 0, 1));
                say.refused("p, and q holds a judge", -1, Rooms::busy, x -> x.copy(s, 2, 0, 0, 1));
                say.refused("q, and p holds nothing", -1, Rooms::busy, x -> x.copy(3, s, 0, 0, -1));
            }
        });
        say.says("Promise 4", "-2 also of two SORTS (when both hold something)", () -> {
            say.refused("p a judge", -2, Rooms::busy, x -> x.copy(2, 0, 0, 0, 1));
            say.refused("q a judge", -2, Rooms::busy, x -> x.copy(0, 4, 0, 0, 1));
            say.refused("both judges", -2, Rooms::busy, x -> x.copy(2, 4, 0, 0, 1));
            say.refused("p a judge, q nothing", -2, Rooms::busy, x -> x.copy(2, 3, 0, 0, 1));
            say.refused("p nothing, q a judge", -2, Rooms::busy, x -> x.copy(3, 2, 0, 0, 1));
            say.refused("two sorts", -2, Rooms::busy, x -> x.copy(1, 6, 0, 0, 1));
            say.refused("two sorts, none of it", -2, Rooms::busy, x -> x.copy(1, 6, 0, 0, 0));
            say.refused("two sorts, an empty one", -2, Rooms::busy, x -> x.copy(5, 0, 0, 0, -1));
        });
        say.says("Promise 4", "-3 either", () -> {
            say.refused("p", -3, Rooms::busy, x -> x.copy(3, 0, 0, 0, 1));
            say.refused("q", -3, Rooms::busy, x -> x.copy(0, 3, 0, 0, 1));
            say.refused("q, of longs", -3, Rooms::busy, x -> x.copy(6, 3, 0, 0, 1));
            say.refused("both", -3, Rooms::busy, x -> x.copy(3, 3, 0, 0, -1));
        });
        say.says("Promise 4", "-4 n", () -> {
            for (int n : BELOW) {
                say.refused("copy", -4, Rooms::busy, x -> x.copy(0, 7, 0, 0, n));
                say.refused("copy, beyond too", -4, Rooms::busy, x -> x.copy(0, 7, 4, 3, n));
            }
        });
        say.says("Promise 4", "-5 i or j below 0, or an end that isn't there", () -> {
            for (int at : BELOW) {
                say.refused("i", -5, BoundaryPromisesTest::twoRows, x -> x.copy(0, 1, at, 0, 1));
                say.refused("j", -5, BoundaryPromisesTest::twoRows, x -> x.copy(0, 1, 0, at, 1));
                say.refused("i, none of it", -5, BoundaryPromisesTest::twoRows, x -> x.copy(0, 1, at, 0, 0));
                say.refused("j, none of it", -5, BoundaryPromisesTest::twoRows, x -> x.copy(0, 1, 0, at, 0));
            }
            say.refused("end in p", -5, BoundaryPromisesTest::twoRows, x -> x.copy(0, 1, 4, 0, 2));
            say.refused("end in q", -5, BoundaryPromisesTest::twoRows, x -> x.copy(0, 1, 0, 2, 2));
            say.refused("longer than q", -5, BoundaryPromisesTest::twoRows, x -> x.copy(0, 1, 0, 0, 4));
            say.refused("longer than p", -5, BoundaryPromisesTest::twoRows, x -> x.copy(1, 0, 0, 0, 4));
            say.refused("none behind p", -5, BoundaryPromisesTest::twoRows, x -> x.copy(0, 1, 6, 0, 0));
            say.refused("none behind q", -5, BoundaryPromisesTest::twoRows, x -> x.copy(0, 1, 0, 4, 0));
            say.refused("greatest i", -5, BoundaryPromisesTest::twoRows, x -> x.copy(0, 1, MOST, 0, 1));
            say.refused("greatest j", -5, BoundaryPromisesTest::twoRows, x -> x.copy(0, 1, 0, MOST, 1));
            say.refused("greatest n", -5, BoundaryPromisesTest::twoRows, x -> x.copy(0, 1, 0, 0, MOST));
            say.refused("a sum that wraps", -5, BoundaryPromisesTest::twoRows, x -> x.copy(0, 1, 1, 1, MOST));
            say.refused("all of them", -5, BoundaryPromisesTest::twoRows, x -> x.copy(0, 0, MOST, MOST, MOST));
            ManyEyes x = twoRows();
            due("none at the ends", x.copy(0, 1, 5, 3, 0), 1);
            due("none of empty ones", Rooms.busy().copy(5, 5, 0, 0, 0), 1);
            due("one of empty ones", Rooms.busy().copy(5, 5, 0, 0, 1), -5);
        });
    }

    private void element() {
        say.says("Promise 5", "0 if there is none (nothing is refused)", () -> {
            for (int s : NO_SHELF) {
                say.nothing("no shelf", 0, Rooms::busy, x -> x.element(s, 0));
            }
            for (int i : new int[] {-1, 3, 100, LEAST, MOST}) {
                say.nothing("no element", 0, Rooms::busy, x -> x.element(0, i));
            }
            say.nothing("a judge", 0, Rooms::busy, x -> x.element(2, 0));
            say.nothing("nothing", 0, Rooms::busy, x -> x.element(3, 0));
            say.nothing("of an empty one", 0, Rooms::busy, x -> x.element(5, 0));
            say.nothing("one that is there", 9, Rooms::busy, x -> x.element(0, 2));
        });
        say.says("Promise 5", "0 if there is none", () -> {
            // What was there in a longer row, or ahead of a judge, isn't there any more.
            ManyEyes x = Rooms.busy();
            x.row(0, 0, 2);
            due("shorter", x.element(0, 2), 0);
            x.row(0, 0, 3);
            due("longer again", x.element(0, 2), 0);
            x.show(1, 0);
            due("a judge in its place", x.element(1, 1), 0);
            x.row(1, 2, 4);
            due("a row again", x.element(1, 1), 0);
            x.show(6, NONE);
            due("nothing in its place", x.element(6, 4), 0);
        });
    }

    private void show() {
        say.says("Promise 6", "SHELF s holds a JUDGE (one that has LEFT may be, too): 1", () -> {
            for (int s = 0; s < 8; s++) {
                ManyEyes x = Rooms.busy();
                due("show", x.show(s, 0), 1);
                due("holds", x.holds(s), 0);
                due("has left", x.show(s, 2), 1);
                due("holds", x.holds(s), 2);
                due("refusals", Rooms.refusals(x), 0);
            }
            ManyEyes x = Rooms.made(2, 1, 24);
            due("the last", x.show(7, 23), 1);
            due("holds", x.holds(7), 23);
        });
        say.says("Promise 6", "NOTHING (judge NONE): 0", () -> {
            for (int s = 0; s < 8; s++) {
                ManyEyes x = Rooms.busy();
                due("show", x.show(s, NONE), 0);
                due("holds", x.holds(s), NONE);
                due("again", x.show(s, NONE), 0);
                due("no row", x.set(s, 0, 0), -3);
                due("no judge", x.countsIn(s), -3);
                due("refusals", Rooms.refusals(x), 2);
            }
            due("without any judge", new ManyEyes().show(0, NONE), 0);
        });
        say.says("Promise 6", "-1 no such SHELF; no such JUDGE ever", () -> {
            for (int s : NO_SHELF) {
                say.refused("shelf", -1, Rooms::busy, x -> x.show(s, 0));
                say.refused("shelf, nothing", -1, Rooms::busy, x -> x.show(s, NONE));
            }
            for (int judge : new int[] {-2, 3, 24, 100, LEAST, MOST}) {
                say.refused("judge", -1, Rooms::busy, x -> x.show(0, judge));
                say.refused("judge over a judge", -1, Rooms::busy, x -> x.show(2, judge));
            }
        });
    }

    private void holds() {
        String words = "NONE NOTHING, or no such SHELF; a JUDGE's number; 100 and the SORT of a ROW";
        say.says("Promise 7", words, () -> {
            for (int s : NO_SHELF) {
                say.nothing("no shelf", NONE, Rooms::busy, x -> x.holds(s));
            }
            int[] want = {100, 102, 1, NONE, 2, 103, 103, 100};
            for (int s = 0; s < 8; s++) {
                int shelf = s;
                say.nothing("shelf " + s, want[s], Rooms::busy, x -> x.holds(shelf));
            }
            ManyEyes x = Rooms.busy();
            x.show(0, 0);
            due("judge 0", x.holds(0), 0);
            x.row(0, 0, 0);
            due("a row of no bytes", x.holds(0), 100);
        });
    }

    private void countsIn() {
        say.says("Promise 8", "(0 if they have LEFT)", () -> {
            say.nothing("has left", 0, Rooms::busy, x -> x.countsIn(4));
            say.nothing("is there", 2, Rooms::busy, x -> x.countsIn(2));
            ManyEyes x = Rooms.busy();
            x.leave(1);
            due("leaves on the shelf", x.countsIn(2), 0);
        });
        say.says("Promise 8", "How many answers of the JUDGE in SHELF s COUNT", () -> {
            ManyEyes x = Rooms.made(2, 40, 2);
            x.show(0, 0);
            x.show(1, 1);
            due("none given", x.countsIn(0), 0);
            Rooms.giveMany(x, 0, 0, 6, 0, 9);
            Rooms.giveMany(x, 1, 0, 5, 0, 9);
            due("five", x.countsIn(1), 5);
            Rooms.giveMany(x, 1, 5, 1, 0, 9);
            due("none, copied", x.countsIn(1), 0);
            Rooms.giveMany(x, 0, 6, 15, 0, 9);
            due("the tired one doesn't", x.countsIn(0), 20);
            Rooms.giveMany(x, 0, 21, 1, 0, 0);
            due("the hasty one doesn't", x.countsIn(0), 20);
        });
        say.says("Promise 8", "-1; -2; -3", () -> {
            for (int s : NO_SHELF) {
                say.refused("no shelf", -1, Rooms::busy, x -> x.countsIn(s));
            }
            say.refused("a row", -2, Rooms::busy, x -> x.countsIn(0));
            say.refused("an empty row", -2, Rooms::busy, x -> x.countsIn(5));
            say.refused("nothing", -3, Rooms::busy, x -> x.countsIn(3));
        });
    }

    private static ManyEyes twoQuestions() {
        ManyEyes x = Rooms.made(2, 2, 2);
        x.question(4, 0, 1);
        return x;
    }

    private void question() {
        say.says("Promise 9", "The first has no PARENT (parent NONE; wanted doesn't count)", () -> {
            for (int wanted : new int[] {0, NONE, 2, 100, LEAST, MOST}) {
                due("wanted " + wanted, new ManyEyes().question(2, NONE, wanted), 0);
            }
        });
        say.says("Promise 9", "A new QUESTION: its number", () -> {
            ManyEyes x = new ManyEyes();
            due("the first", x.question(2, NONE, 0), 0);
            for (int q = 1; q < 5; q++) {
                due("question " + q, x.question(2, q - 1, 0), q);
            }
        });
        say.says("Promise 9", "-1 parent is no QUESTION (of others)", () -> {
            for (int parent : NO_QUESTION) {
                say.refused("parent", -1, BoundaryPromisesTest::twoQuestions, x -> x.question(2, parent, 0));
                say.refused("parent, all wrong", -1, BoundaryPromisesTest::twoQuestions,
                    x -> x.question(5, parent, -1));
            }
            say.refused("parent, and no room", -1, BoundaryPromisesTest::fiveQuestions,
                x -> x.question(2, 5, 0));
            say.refused("NONE", -1, BoundaryPromisesTest::fiveQuestions, x -> x.question(2, NONE, 0));
        });
        String wrong = "-6 answers not 2 to 4, the first one's parent not NONE, wanted none of the PARENT's ANSWERS";
        say.says("Promise 9", wrong, () -> {
            for (int answers : new int[] {-1, 0, 1, 5, LEAST, MOST}) {
                say.refused("the first's answers", -6, ManyEyes::new, x -> x.question(answers, NONE, 0));
                say.refused("answers", -6, BoundaryPromisesTest::twoQuestions, x -> x.question(answers, 0, 0));
                say.refused("answers, and no room", -6, BoundaryPromisesTest::fiveQuestions,
                    x -> x.question(answers, 0, 0));
            }
            for (int answers = 2; answers <= 4; answers++) {
                due("answers", new ManyEyes().question(answers, NONE, 0), 0);
                due("answers", twoQuestions().question(answers, 0, 0), 2);
            }
        });
        say.says("Promise 9", "the first one's parent not NONE", () -> {
            for (int parent : new int[] {0, 1, -2, LEAST, MOST}) {
                say.refused("parent", -6, ManyEyes::new, x -> x.question(2, parent, 0));
            }
        });
        say.says("Promise 9", "wanted none of the PARENT's ANSWERS", () -> {
            for (int wanted : NO_ANSWER_OF_TWO) {
                say.refused("of two", -6, BoundaryPromisesTest::twoQuestions, x -> x.question(4, 0, wanted));
            }
            for (int wanted : new int[] {-1, 4, LEAST, MOST}) {
                say.refused("of four", -6, BoundaryPromisesTest::twoQuestions, x -> x.question(2, 1, wanted));
            }
            due("the last of two", twoQuestions().question(2, 0, 1), 2);
            due("the last of four", twoQuestions().question(2, 1, 3), 2);
        });
        say.says("Promise 9", "-7", () -> say.refused("the sixth", -7, BoundaryPromisesTest::fiveQuestions,
            x -> x.question(2, 0, 0)));
    }

    private void thingsAndJudges() {
        say.says("Promise 10", "n new THINGS: how many there are", () -> {
            ManyEyes x = Rooms.made(2, 0, 1);
            due("none", x.things(0), 0);
            due("no case", x.looks(0, 0), NONE);
            due("39", x.things(39), 39);
            due("no thing 39", x.looks(39, 0), NONE);
            due("none", x.things(0), 39);
            due("one", x.things(1), 40);
            due("thing 39", x.looks(39, 0), 0);
            due("none, full", x.things(0), 40);
            due("refusals", Rooms.refusals(x), 0);
        });
        say.says("Promise 10", "-4 n", () -> {
            for (int n : BELOW) {
                say.refused("things", -4, Rooms::busy, x -> x.things(n));
                say.refused("things, full", -4, BoundaryPromisesTest::manyThings, x -> x.things(n));
            }
        });
        say.says("Promise 10", "-7", () -> {
            say.refused("one more", -7, BoundaryPromisesTest::manyThings, x -> x.things(1));
            say.refused("38 with three", -7, Rooms::busy, x -> x.things(38));
            say.refused("a sum that wraps", -7, Rooms::busy, x -> x.things(MOST));
            say.refused("41 at once", -7, ManyEyes::new, x -> x.things(41));
            due("37 with three", Rooms.busy().things(37), 40);
        });
        say.says("Promise 11", "A new JUDGE: its number", () -> {
            ManyEyes x = new ManyEyes();
            for (int j = 0; j < 24; j++) {
                due("judge", x.judge(), j);
                due("judges", x.status(2), j + 1);
            }
        });
        say.says("Promise 11", "-7", () -> {
            say.refused("the 25th", -7, () -> Rooms.made(2, 0, 24), x -> x.judge());
            ManyEyes x = fullRooms();
            x.leave(23);
            x.leave(0);
            due("the 25th, though two have left", x.judge(), -7);
            due("judges ever", x.status(2), 24);
        });
    }

    private static ManyEyes manyThings() {
        ManyEyes x = new ManyEyes();
        x.things(40);
        return x;
    }

    private void know() {
        say.says("Promise 12", "A CASE is KNOWN from now on (truth NONE: not any more): 1", () -> {
            ManyEyes x = twoQuestions();
            due("the last answer", x.know(1, 1, 3), 1);
            due("known", x.is(2, 1, 1), true);
            due("the first answer", x.know(1, 1, 0), 1);
            due("known", x.share(1, 1, 0), 1000000);
            due("not any more", x.know(1, 1, NONE), 1);
            due("not known", x.is(2, 1, 1), false);
            due("not any more, again", x.know(1, 1, NONE), 1);
            due("share", x.share(1, 1, 0), 250000);
            due("refusals", Rooms.refusals(x), 0);
        });
        say.says("Promise 12", "-1", () -> {
            for (int thing : NO_THING) {
                say.refused("thing", -1, Rooms::busy, x -> x.know(thing, 0, 0));
                say.refused("thing, no truth", -1, Rooms::busy, x -> x.know(thing, 0, 9));
            }
            for (int question : NO_QUESTION) {
                say.refused("question", -1, Rooms::busy, x -> x.know(1, question, 0));
                say.refused("question, not any more", -1, Rooms::busy, x -> x.know(1, question, NONE));
            }
            say.refused("no question 5", -1, BoundaryPromisesTest::fiveQuestions, x -> x.know(0, 5, 0));
            say.refused("no question -1", -1, BoundaryPromisesTest::fiveQuestions, x -> x.know(1, -1, 0));
        });
        say.says("Promise 12", "-6 truth", () -> {
            for (int truth : new int[] {-2, 2, 4, LEAST, MOST}) {
                say.refused("of two", -6, Rooms::busy, x -> x.know(0, 0, truth));
            }
            for (int truth : new int[] {-2, 3, 4, LEAST, MOST}) {
                say.refused("of three", -6, Rooms::busy, x -> x.know(0, 1, truth));
            }
        });
    }

    private void answer() {
        say.says("Promise 13", "0 FAIR, 1 HASTY, 2 TIRED", () -> {
            ManyEyes x = Rooms.made(2, 40, 2);
            due("3 ticks", x.answer(0, 0, 0, 0, 3), 0);
            due("2 ticks", x.answer(0, 1, 0, 0, 2), 1);
            due("0 ticks", x.answer(0, 2, 0, 0, 0), 1);
            Rooms.giveMany(x, 0, 3, 16, 1, 9);
            due("the 20th, greatest ticks", x.answer(0, 19, 0, 1, MOST), 0);
            due("the 21st", x.answer(0, 20, 0, 0, 3), 2);
            due("the 22nd, hasty", x.answer(0, 21, 0, 0, 2), 1);
            due("of another", x.answer(1, 0, 0, 0, 3), 0);
        });
        say.says("Promise 13", "-1", () -> {
            for (int judge : NO_JUDGE) {
                say.refused("judge", -1, Rooms::busy, x -> x.answer(judge, 1, 1, 0, 9));
                say.refused("judge, all wrong", -1, Rooms::busy, x -> x.answer(judge, 1, 1, 3, -1));
            }
            for (int thing : NO_THING) {
                say.refused("thing", -1, Rooms::busy, x -> x.answer(1, thing, 1, 0, 9));
                say.refused("thing, no answer", -1, Rooms::busy, x -> x.answer(1, thing, 1, 3, 9));
            }
            for (int question : NO_QUESTION) {
                say.refused("question", -1, Rooms::busy, x -> x.answer(1, 1, question, 0, 9));
                say.refused("question, ticks below", -1, Rooms::busy, x -> x.answer(1, 1, question, 0, -1));
            }
        });
        String wrong = "-6 the ANSWER, TICKS below 0, they have answered it";
        say.says("Promise 13", wrong, () -> {
            for (int answer : NO_ANSWER_OF_THREE) {
                say.refused("answer of three", -6, Rooms::busy, x -> x.answer(1, 1, 1, answer, 9));
            }
            for (int answer : NO_ANSWER_OF_TWO) {
                say.refused("answer of two", -6, Rooms::busy, x -> x.answer(1, 0, 0, answer, 9));
            }
        });
        say.says("Promise 13", "TICKS below 0", () -> {
            for (int ticks : BELOW) {
                say.refused("ticks", -6, Rooms::busy, x -> x.answer(1, 0, 0, 0, ticks));
            }
            due("ticks 0", Rooms.busy().answer(1, 0, 0, 0, 0), 1);
        });
        say.says("Promise 13", "they have answered it", () -> {
            say.refused("fair", -6, Rooms::busy, x -> x.answer(0, 0, 0, 1, 9));
            say.refused("fair, otherwise", -6, Rooms::busy, x -> x.answer(0, 0, 0, 0, 1));
            say.refused("hasty", -6, Rooms::busy, x -> x.answer(1, 1, 0, 1, 9));
            ManyEyes x = Rooms.made(2, 40, 1);
            Rooms.giveMany(x, 0, 0, 20, 0, 9);
            due("tired", x.answer(0, 20, 0, 1, 9), 2);
            x.rest(0);
            due("tired, again", x.answer(0, 20, 0, 1, 9), -6);
        });
        say.says("Promise 13", "(OPEN or not doesn't count.)", () -> {
            ManyEyes x = twoQuestions();
            due("isn't open", x.is(0, 0, 1), false);
            due("answer", x.answer(0, 0, 1, 3, 9), 0);
            x.know(0, 0, 1);
            due("is open", x.is(0, 0, 1), true);
            due("answer", x.answer(1, 0, 1, 3, 9), 0);
            due("of a known one", x.answer(1, 0, 0, 0, 9), 0);
            due("counts", x.looks(0, 0), 1);
        });
    }

    private static ManyEyes withRow(int sort, long... values) {
        ManyEyes x = Rooms.busy();
        x.row(0, sort, values.length);
        Rooms.put(x, 0, 0, values);
        return x;
    }

    private void answers() {
        say.says("Promise 14", "five elements each", () -> {
            ManyEyes x = withRow(0, 1, 0, 0, 1, 9);
            due("one", x.answers(0), 1);
            due("how", x.how(1, 0, 0), 0);
            x = withRow(1, 1, 0, 0, 1, 9, 0, 1, 1, 2, 0);
            due("two", x.answers(0), 2);
            due("the hasty one", x.how(0, 1, 1), 1);
            due("the row stays", x.element(0, 7), 1);
            due("given, refused now", x.answers(0), 0);
        });
        say.says("Promise 14", "(as ints: of longs the lowest 32 bits)", () -> {
            long high = 1L << 32;
            ManyEyes x = withRow(3, high + 1, -high, 5 * high, high + 1, Long.MIN_VALUE + 9);
            due("one", x.answers(0), 1);
            due("how", x.how(1, 0, 0), 0);
            say.nothing("ticks below 0", 0, () -> withRow(3, 1, 0, 0, 1, 0x80000000L), y -> y.answers(0));
            say.nothing("a judge below 0", 0, () -> withRow(3, 0xffffffffL, 0, 0, 1, 9), y -> y.answers(0));
            due("greatest ticks", withRow(3, 1, 0, 0, 1, 0x7fffffffL).answers(0), 1);
            due("of ints", withRow(2, 1, 0, 0, 1, MOST).answers(0), 1);
        });
        say.says("Promise 14", "until one would be refused by answer() or elements lack", () -> {
            ManyEyes x = withRow(0, 1, 0, 0, 1, 9, 1, 3, 0, 1, 9, 1, 1, 1, 1, 9);
            due("the second would be", x.answers(0), 1);
            due("the third isn't given", x.how(1, 1, 1), NONE);
            due("the same twice", withRow(0, 1, 0, 0, 1, 9, 1, 0, 0, 1, 9).answers(0), 1);
            due("nine elements", withRow(0, 1, 0, 0, 1, 9, 0, 1, 1, 2).answers(0), 1);
            due("six elements", withRow(0, 1, 0, 0, 1, 9, 0).answers(0), 1);
            x = Rooms.made(2, 20, 1);
            x.row(0, 0, 100);
            for (int t = 0; t < 20; t++) {
                Rooms.put(x, 0, 5 * t, 0, t, 0, 1, 9);
            }
            due("a full row", x.answers(0), 20);
        });
        say.says("Promise 14", "how many were given (0 may be; what would be refused isn't counted as refused)",
            () -> {
                say.nothing("no element", 0, Rooms::busy, x -> x.answers(5));
                say.nothing("three elements", 0, Rooms::busy, x -> x.answers(0));
                say.nothing("four elements", 0, () -> withRow(0, 1, 0, 0, 1), x -> x.answers(0));
                say.nothing("one that has left", 0, () -> withRow(0, 2, 0, 0, 1, 9), x -> x.answers(0));
                say.nothing("no judge", 0, () -> withRow(0, -1, 0, 0, 1, 9), x -> x.answers(0));
                say.nothing("no thing", 0, () -> withRow(0, 1, 3, 0, 1, 9), x -> x.answers(0));
                say.nothing("no question", 0, () -> withRow(0, 1, 0, 2, 1, 9), x -> x.answers(0));
                say.nothing("no answer", 0, () -> withRow(0, 1, 0, 0, 2, 9), x -> x.answers(0));
                say.nothing("ticks below 0", 0, () -> withRow(0, 1, 0, 0, 1, -1), x -> x.answers(0));
                say.nothing("answered", 0, () -> withRow(0, 0, 0, 0, 1, 9), x -> x.answers(0));
                ManyEyes x = withRow(0, 1, 0, 0, 1, 9, 1, 3, 0, 1, 9);
                due("one and one refused", x.answers(0), 1);
                due("refusals", Rooms.refusals(x), 0);
            });
        say.says("Promise 14", "-1; -2; -3", () -> {
            for (int s : NO_SHELF) {
                say.refused("no shelf", -1, Rooms::busy, x -> x.answers(s));
            }
            say.refused("a judge", -2, Rooms::busy, x -> x.answers(2));
            say.refused("one that has left", -2, Rooms::busy, x -> x.answers(4));
            say.refused("nothing", -3, Rooms::busy, x -> x.answers(3));
        });
    }

    private void restAndLeave() {
        say.says("Promise 15", "A JUDGE has a REST: 1", () -> {
            ManyEyes x = Rooms.made(2, 40, 2);
            due("without an answer", x.rest(0), 1);
            Rooms.giveMany(x, 0, 0, 20, 0, 9);
            x.rest(1);
            due("another's rest", x.answer(0, 20, 0, 0, 9), 2);
            due("its own", x.rest(0), 1);
            due("fair", x.answer(0, 21, 0, 0, 9), 0);
        });
        say.says("Promise 15", "-1", () -> {
            for (int judge : NO_JUDGE) {
                say.refused("rest", -1, Rooms::busy, x -> x.rest(judge));
            }
        });
        say.says("Promise 16", "how many answers they had given", () -> {
            ManyEyes x = Rooms.made(2, 40, 3);
            Rooms.giveMany(x, 0, 0, 20, 0, 9);
            Rooms.giveMany(x, 0, 20, 2, 0, 9);
            Rooms.giveMany(x, 0, 22, 3, 0, 0);
            x.answer(0, 0, 0, 1, 9);
            due("none", x.leave(2), 0);
            due("of all kinds, none refused", x.leave(0), 25);
            due("of one without answers", x.leave(1), 0);
            due("refusals", Rooms.refusals(x), 1);
            due("have left", x.status(3), 3);
        });
        say.says("Promise 16", "-1", () -> {
            for (int judge : NO_JUDGE) {
                say.refused("leave", -1, Rooms::busy, x -> x.leave(judge));
            }
        });
    }

    private void bar() {
        say.says("Promise 17", "MARK (what 0; 1 to 1000)", () -> barDue(0, 9, 1, 1000));
        say.says("Promise 17", "LOOKS (1; 1 to 24)", () -> barDue(1, 10, 1, 24));
        say.says("Promise 17", "HASTE (2; 0 to 100)", () -> barDue(2, 18, 0, 100));
        say.says("Promise 17", "-6", () -> {
            for (int what : new int[] {-1, 3, 9, LEAST, MOST}) {
                say.refused("another what", -6, Rooms::busy, x -> x.bar(what, 5));
            }
        });
    }

    private void barDue(int what, int status, int least, int most) {
        for (int n : new int[] {least - 1, most + 1, -2, LEAST, MOST}) {
            say.refused("bar(" + what + ", " + n + ")", -6, Rooms::busy, x -> x.bar(what, n));
        }
        for (int n : new int[] {least, least + 1, most - 1, most}) {
            ManyEyes x = Rooms.busy();
            due("bar(" + what + ", " + n + ")", x.bar(what, n), 1);
            due("status", x.status(status), n);
            due("MARK stays", status == 9 ? 950 : x.status(9), 950);
            due("LOOKS stays", status == 10 ? 12 : x.status(10), 12);
            due("HASTE stays", status == 18 ? 3 : x.status(18), 3);
        }
    }

    private void reckon() {
        say.says("Promise 18", "A RECKONING: how many STEPS", () -> {
            due("of nothing", new ManyEyes().reckon(false), 1);
            due("of nothing, known alone", new ManyEyes().reckon(true), 0);
            ManyEyes x = Rooms.made(2, 3, 1);
            due("without an answer", x.reckon(false), 1);
            x.answer(0, 0, 0, 1, 9);
            due("with one", x.reckon(false), 2);
            due("known alone", x.reckon(true), 0);
            x.know(0, 0, 1);
            due("all known", x.reckon(false), 1);
        });
    }

    private void changedAndAgreed() {
        say.says("Promise 19", "How many CASES changed in the i-th STEP (from 0 on) of the latest RECKONING; NONE",
            () -> {
                ManyEyes x = Rooms.made(2, 7, 1);
                due("ahead of all", x.changed(0), NONE);
                Rooms.give(x, 0, 0, 1, 0, 1, 0, 1, 0);
                x.reckon(false);
                due("the first", x.changed(0), 7);
                due("the second", x.changed(1), 3);
                due("the last", x.changed(2), 0);
                for (int i : new int[] {-1, 3, 30, LEAST, MOST}) {
                    due("changed(" + i + ")", x.changed(i), NONE);
                }
                for (int t = 0; t < 7; t++) {
                    x.know(t, 0, 0);
                }
                x.reckon(false);
                due("of the latest", x.changed(0), 0);
                due("of an earlier one", x.changed(1), NONE);
                x.reckon(true);
                due("of one without steps", x.changed(0), NONE);
                due("refusals", Rooms.refusals(x), 0);
            });
        say.says("Promise 20", "What a CASE is AGREED on since the latest RECKONING; NONE", () -> {
            for (int thing : NO_THING) {
                say.nothing("thing", NONE, Rooms::busy, x -> x.agreed(thing, 0));
            }
            for (int question : NO_QUESTION) {
                say.nothing("question", NONE, Rooms::busy, x -> x.agreed(2, question));
            }
            say.nothing("agreed", 1, Rooms::busy, x -> x.agreed(2, 0));
            say.nothing("known", NONE, Rooms::busy, x -> x.agreed(0, 0));
            say.nothing("without an answer", NONE, Rooms::busy, x -> x.agreed(2, 1));
            due("ahead of all", Rooms.made(2, 1, 1).agreed(0, 0), NONE);
        });
        say.says("Promise 20", "(It stays also if it becomes KNOWN, or answers come or go.)", () -> {
            ManyEyes x = Rooms.busy();
            due("agreed", x.status(5), 2);
            x.know(2, 0, 0);
            due("becomes known", x.agreed(2, 0), 1);
            x.know(2, 0, NONE);
            due("not any more", x.agreed(2, 0), 1);
            x.leave(0);
            x.leave(1);
            due("answers go", x.agreed(2, 0), 1);
            int judge = x.judge();
            x.answer(judge, 2, 0, 0, 9);
            due("another comes", x.agreed(2, 0), 1);
            due("counted", x.status(5), 2);
            x.reckon(false);
            due("the next reckoning", x.agreed(2, 0), 0);
        });
    }

    private void topAndBottom() {
        String words = "TOP of a JUDGE's TABLE; 0: no such JUDGE (one that has LEFT, too), QUESTION, ANSWERS";
        say.says("Promise 21", words, () -> {
            for (int judge : NO_JUDGE) {
                say.nothing("judge", 0, Rooms::busy, x -> x.top(judge, 0, 0, 0));
            }
            for (int question : NO_QUESTION) {
                say.nothing("question", 0, Rooms::busy, x -> x.top(0, question, 0, 0));
            }
            for (int answer : NO_ANSWER_OF_TWO) {
                say.nothing("a", 0, Rooms::busy, x -> x.top(0, 0, answer, 0));
                say.nothing("b", 0, Rooms::busy, x -> x.top(0, 0, 0, answer));
            }
            for (int answer : NO_ANSWER_OF_THREE) {
                say.nothing("a of three", 0, Rooms::busy, x -> x.top(0, 1, answer, 0));
                say.nothing("b of three", 0, Rooms::busy, x -> x.top(0, 1, 0, answer));
            }
            // Known 0 and 1 and agreed 2: judge 0 said 0 once of 0, and 1 twice of 1.
            say.nothing("top(1, 1)", 3, Rooms::busy, x -> x.top(0, 0, 1, 1));
            say.nothing("top(0, 0)", 2, Rooms::busy, x -> x.top(0, 0, 0, 0));
            say.nothing("the last of all", 1, Rooms::busy, x -> x.top(1, 1, 2, 2));
        });
        say.says("Promise 22", "BOTTOM; 0 likewise", () -> {
            for (int judge : NO_JUDGE) {
                say.nothing("judge", 0, Rooms::busy, x -> x.bottom(judge, 0, 0));
            }
            for (int question : NO_QUESTION) {
                say.nothing("question", 0, Rooms::busy, x -> x.bottom(0, question, 0));
            }
            for (int answer : NO_ANSWER_OF_TWO) {
                say.nothing("b", 0, Rooms::busy, x -> x.bottom(0, 0, answer));
            }
            for (int answer : NO_ANSWER_OF_THREE) {
                say.nothing("b of three", 0, Rooms::busy, x -> x.bottom(0, 1, answer));
            }
            say.nothing("bottom(1)", 4, Rooms::busy, x -> x.bottom(0, 0, 1));
            say.nothing("bottom(0)", 3, Rooms::busy, x -> x.bottom(0, 0, 0));
            say.nothing("the last of all", 3, Rooms::busy, x -> x.bottom(1, 1, 2));
        });
    }

    private void shareAndLeading() {
        say.says("Promise 23", "NONE: no such CASE, ANSWER", () -> {
            for (int thing : NO_THING) {
                say.nothing("thing", NONE, Rooms::busy, x -> x.share(thing, 0, 0));
            }
            for (int question : NO_QUESTION) {
                say.nothing("question", NONE, Rooms::busy, x -> x.share(1, question, 0));
            }
            for (int answer : NO_ANSWER_OF_TWO) {
                say.nothing("b", NONE, Rooms::busy, x -> x.share(2, 0, answer));
                say.nothing("b of a known one", NONE, Rooms::busy, x -> x.share(0, 0, answer));
            }
            for (int answer : NO_ANSWER_OF_THREE) {
                say.nothing("b of three", NONE, Rooms::busy, x -> x.share(2, 1, answer));
            }
            due("no answer 3 of five questions", fiveQuestions().share(0, 4, 2), NONE);
        });
        say.says("Promise 23", "in millionths, rounded down", () -> {
            ManyEyes x = Rooms.made(3, 2, 1);
            due("a third", x.share(0, 0, 2), 333333);
            x.know(0, 0, 1);
            due("the whole", x.share(0, 0, 1), 1000000);
            due("nothing of it", x.share(0, 0, 2), 0);
            x = Rooms.learned(2, 4, 1);
            x.answer(0, 2, 0, 1, 9);
            due("two thirds", x.share(2, 0, 1), 666666);
            due("a third of two", x.share(2, 0, 0), 333333);
        });
        say.says("Promise 24", "LEADING; NONE: no such CASE", () -> {
            for (int thing : NO_THING) {
                say.nothing("thing", NONE, Rooms::busy, x -> x.leading(thing, 0));
            }
            for (int question : NO_QUESTION) {
                say.nothing("question", NONE, Rooms::busy, x -> x.leading(1, question));
            }
            say.nothing("of a known one", 1, Rooms::busy, x -> x.leading(0, 0));
            say.nothing("without an answer", 0, Rooms::busy, x -> x.leading(2, 1));
        });
    }

    private void is() {
        say.says("Promise 25", "false: no such CASE, another what", () -> {
            for (int what = 0; what < 3; what++) {
                int asked = what;
                for (int thing : NO_THING) {
                    say.nothing("thing", 0, Rooms::busy, x -> x.is(asked, thing, 0) ? 1 : 0);
                }
                for (int question : NO_QUESTION) {
                    say.nothing("question", 0, Rooms::busy, x -> x.is(asked, 0, question) ? 1 : 0);
                }
                say.nothing("one that is", 1, Rooms::busy, x -> x.is(asked, 0, 0) ? 1 : 0);
            }
            for (int what : new int[] {-1, 3, LEAST, MOST}) {
                say.nothing("what", 0, Rooms::busy, x -> x.is(what, 0, 0) ? 1 : 0);
            }
        });
        say.says("Promise 25", "Whether a CASE is OPEN (what 0), has ENDED (1), is KNOWN (2)", () -> {
            // Each of the three, but not the two others, as far as the document lets it.
            ManyEyes x = twoQuestions();
            due("open alone", x.is(0, 0, 0) && !x.is(1, 0, 0) && !x.is(2, 0, 0), true);
            x.know(0, 1, 0);
            due("not open, but ended and known", !x.is(0, 0, 1) && x.is(1, 0, 1) && x.is(2, 0, 1), true);
            x.bar(1, 1);
            x.answer(0, 1, 1, 0, 9);
            due("ended alone", !x.is(0, 1, 1) && x.is(1, 1, 1) && !x.is(2, 1, 1), true);
        });
    }

    private void looks() {
        say.says("Promise 26", "How many answers COUNT in a CASE; NONE: no such one", () -> {
            for (int thing : NO_THING) {
                say.nothing("thing", NONE, Rooms::busy, x -> x.looks(thing, 0));
            }
            for (int question : NO_QUESTION) {
                say.nothing("question", NONE, Rooms::busy, x -> x.looks(2, question));
            }
            say.nothing("two", 2, Rooms::busy, x -> x.looks(2, 0));
            say.nothing("none", 0, Rooms::busy, x -> x.looks(2, 1));
            ManyEyes x = fullRooms();
            for (int j = 0; j < 24; j++) {
                x.answer(j, 39, 0, j % 2, 9);
            }
            due("all", x.looks(39, 0), 24);
        });
    }

    private void how() {
        say.says("Promise 27", "NONE: there is none (they have LEFT, too)", () -> {
            for (int judge : NO_JUDGE) {
                say.nothing("judge", NONE, Rooms::busy, x -> x.how(judge, 2, 0));
            }
            for (int thing : NO_THING) {
                say.nothing("thing", NONE, Rooms::busy, x -> x.how(0, thing, 0));
            }
            for (int question : NO_QUESTION) {
                say.nothing("question", NONE, Rooms::busy, x -> x.how(0, 1, question));
            }
            say.nothing("without an answer", NONE, Rooms::busy, x -> x.how(0, 2, 1));
            say.nothing("counts", 0, Rooms::busy, x -> x.how(0, 2, 0));
        });
        say.says("Promise 27", "0 it COUNTS, 1 HASTY, 2 TIRED, 3 FAIR, but it doesn't COUNT", () -> {
            ManyEyes x = Rooms.made(2, 40, 2);
            Rooms.giveMany(x, 0, 0, 6, 0, 9);
            Rooms.giveMany(x, 1, 0, 5, 0, 9);
            due("of five alike", x.how(1, 4, 0), 0);
            Rooms.giveMany(x, 1, 5, 15, 0, 9);
            due("of six alike", x.how(1, 0, 0), 3);
            due("the original", x.how(0, 0, 0), 0);
            due("where it has none", x.how(1, 6, 0), 0);
            x.answer(1, 20, 0, 0, 0);
            x.answer(1, 21, 0, 0, 9);
            due("hasty", x.how(1, 20, 0), 1);
            due("tired", x.how(1, 21, 0), 2);
            x.answer(0, 20, 0, 0, 9);
            x.answer(0, 21, 0, 0, 9);
            due("hasty, and copied", x.how(1, 20, 0), 1);
            due("tired, and copied", x.how(1, 21, 0), 2);
        });
    }

    private void copied() {
        say.says("Promise 28", "Of whom a JUDGE is COPIED; NONE", () -> {
            for (int judge : NO_JUDGE) {
                say.nothing("judge", NONE, Rooms::busy, x -> x.copied(judge));
            }
            ManyEyes x = Rooms.made(2, 6, 2);
            due("without an answer", x.copied(1), NONE);
            Rooms.giveMany(x, 0, 0, 6, 1, 9);
            Rooms.giveMany(x, 1, 0, 6, 1, 9);
            due("copied", x.copied(1), 0);
            due("not the first", x.copied(0), NONE);
            x.leave(1);
            due("has left", x.copied(1), NONE);
            due("refusals", Rooms.refusals(x), 0);
        });
    }

    private void next() {
        say.says("Promise 29", "NONE if there is none", () -> {
            say.nothing("without a thing", NONE, () -> Rooms.made(2, 0, 1), x -> x.next(0));
            say.nothing("without a question", NONE, () -> {
                ManyEyes x = new ManyEyes();
                x.things(2);
                x.judge();
                return x;
            }, x -> x.next(0));
            ManyEyes x = Rooms.made(2, 2, 2);
            x.know(0, 0, 1);
            due("the one left", x.next(0), 10);
            x.answer(0, 1, 0, 0, 0);
            due("none left", x.next(0), NONE);
            due("of the other", x.next(1), 10);
            due("refusals", Rooms.refusals(x), 0);
        });
        say.says("Promise 29", "-1 is NONE, too (counted as refused): no such JUDGE", () -> {
            for (int judge : NO_JUDGE) {
                say.refused("next", -1, Rooms::busy, x -> x.next(judge));
            }
        });
        say.says("Promise 29", "10 times the THING, and the QUESTION", () -> {
            ManyEyes x = Rooms.made(2, 40, 1);
            for (int q = 1; q < 5; q++) {
                x.question(2, 0, 1);
            }
            due("the first", x.next(0), 0);
            for (int t = 0; t < 39; t++) {
                x.know(t, 0, 0);
            }
            due("of the last thing", x.next(0), 390);
            x.know(39, 0, 1);
            for (int q = 1; q < 4; q++) {
                x.know(39, q, 0);
            }
            due("the last of all", x.next(0), 394);
        });
    }

    private void gain() {
        say.says("Promise 30", "NONE: no such CASE, JUDGE", () -> {
            for (int judge : NO_JUDGE) {
                say.nothing("judge", NONE, Rooms::busy, x -> x.gain(judge, 2, 0));
            }
            for (int thing : NO_THING) {
                say.nothing("thing", NONE, Rooms::busy, x -> x.gain(0, thing, 0));
            }
            for (int question : NO_QUESTION) {
                say.nothing("question", NONE, Rooms::busy, x -> x.gain(0, 1, question));
            }
            say.nothing("of a known one", 0, Rooms::busy, x -> x.gain(0, 1, 0));
        });
        say.says("Promise 30", "GAIN of a CASE for a JUDGE in millionths, rounded down", () -> {
            // Right in one and one: 1/2 * 2/3 twice, less 1/2.
            ManyEyes x = Rooms.learned(2, 4, 2);
            due("a sixth", x.gain(0, 3, 0), 166666);
            due("a judge like all", x.gain(1, 3, 0), 0);
            x.answer(0, 3, 0, 1, 9);
            due("answered already", x.gain(0, 3, 0), 0);
            x = Rooms.learned(16, 17, 1);
            due("two fifths", x.gain(0, 16, 0), 400000);
        });
    }

    private void total() {
        say.says("Promise 31", "NONE: no such QUESTION, ANSWER", () -> {
            for (int question : NO_QUESTION) {
                say.nothing("question", NONE, Rooms::busy, x -> x.total(question, 0));
            }
            for (int answer : NO_ANSWER_OF_TWO) {
                say.nothing("b", NONE, Rooms::busy, x -> x.total(0, answer));
            }
            for (int answer : NO_ANSWER_OF_THREE) {
                say.nothing("b of three", NONE, Rooms::busy, x -> x.total(1, answer));
            }
        });
        say.says("Promise 31", "in thousandths, rounded down", () -> {
            // The sum is rounded, not what it is made of.
            due("three thirds", Rooms.made(3, 3, 1).total(0, 2), 1000);
            due("two thirds", Rooms.made(3, 2, 1).total(0, 2), 666);
            due("forty thirds", Rooms.made(3, 40, 1).total(0, 2), 13333);
            due("without a thing", Rooms.made(3, 0, 1).total(0, 2), 0);
            ManyEyes x = Rooms.made(3, 40, 0);
            for (int t = 0; t < 40; t++) {
                x.know(t, 0, 2);
            }
            due("forty", x.total(0, 2), 40000);
            due("none", x.total(0, 1), 0);
        });
        say.says("Promise 31", "all THINGS whose CASE with the QUESTION is OPEN", () -> {
            ManyEyes x = twoQuestions();
            due("none is open", x.total(1, 0), 0);
            x.know(1, 1, 0);
            due("known, but not open", x.total(1, 0), 0);
            x.know(1, 0, 1);
            due("open and known", x.total(1, 0), 1000);
            x.know(0, 0, 1);
            due("open, and not ended", x.total(1, 0), 1250);
        });
    }

    private void status() {
        say.says("Promise 32", "NONE for another what", () -> {
            for (int what : new int[] {-1, 19, LEAST, MOST}) {
                say.nothing("status", NONE, Rooms::busy, x -> x.status(what));
            }
        });
        String words = "0 THINGS, 1 QUESTIONS, 2 JUDGES ever, 3 that have LEFT, 4 CASES that are KNOWN, "
            + "5 that are AGREED, 6 that are OPEN and have ENDED, 7 answers that are there (of JUDGES that "
            + "have LEFT none), 8 that COUNT, 9 MARK, 10 LOOKS";
        say.says("Promise 32", words, () -> {
            int[] want = {3, 2, 3, 1, 2, 2, 2, 6, 5, 950, 12};
            for (int what = 0; what < want.length; what++) {
                int asked = what;
                say.nothing("status " + what, want[what], Rooms::busy, x -> x.status(asked));
            }
            say.nothing("status 18", 3, Rooms::busy, x -> x.status(18));
        });
        say.says("Promise 32", "6 that are OPEN and have ENDED", () -> {
            ManyEyes x = twoQuestions();
            due("open, not ended", x.status(6), 0);
            x.know(0, 1, 0);
            due("ended, not open", x.status(6), 0);
            x.know(0, 0, 1);
            due("both", x.status(6), 2);
            x.know(0, 0, 0);
            due("closed again", x.status(6), 1);
        });
        say.says("Promise 32", "7 answers that are there (of JUDGES that have LEFT none)", () -> {
            ManyEyes x = Rooms.made(2, 4, 2);
            Rooms.give(x, 0, 0, 1, 0);
            Rooms.give(x, 1, 0, 1);
            x.answer(1, 3, 0, 0, 0);
            due("all", x.status(7), 6);
            due("that count", x.status(8), 5);
            x.leave(0);
            due("without one", x.status(7), 3);
            due("that count", x.status(8), 2);
            x.leave(1);
            due("without all", x.status(7), 0);
            due("that count", x.status(8), 0);
        });
        say.says("Promise 32", "11 to 17: REFUSALS -1 to -7", () -> {
            ManyEyes x = Rooms.busy();
            x.rest(9);
            x.set(2, 0, 0);
            x.set(3, 0, 0);
            x.things(-1);
            x.set(0, 3, 0);
            x.bar(0, 0);
            x.things(99);
            for (int r = 0; r < 7; r++) {
                due("one of " + (-1 - r), x.status(11 + r), 1);
            }
            x.things(99);
            x.rest(9);
            x.rest(9);
            due("three of -1", x.status(11), 3);
            due("two of -7", x.status(17), 2);
        });
    }
}
