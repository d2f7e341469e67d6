/** The promises of the document one by one: ordinary inputs, the edges it names, and wrong inputs. */
public final class PromiseTest {
    private static final int NONE = ManyEyes.NONE;
    private static final Check check = new Check();

    /** Of five judges (one a text) the answers to 40 things: in RECKONING, STEP 30 still changes some. */
    static final String[] RESTLESS = {
        ".1..33.11.1...01..33201.33....311231.33.",
        "31.000222.00..12.20.2..0.0010.1.1.30.211",
        "2...00..12.3.23.3.22.....0.1.1.211.01202",
        "03.0.32..12232.0.3....2211.3.0..332..2.3",
        ".2010.3.03.0.210020.32...0.202.....3.1..",
    };

    private PromiseTest() {
    }

    public static void main(String[] args) {
        due("NONE", ManyEyes.NONE, -1);
        newObject();
        row();
        set();
        copy();
        element();
        show();
        holds();
        countsIn();
        question();
        things();
        judge();
        know();
        answer();
        answers();
        rest();
        leave();
        bar();
        reckon();
        changed();
        agreed();
        top();
        bottom();
        share();
        leading();
        isOpen();
        isEnded();
        isKnown();
        looks();
        how();
        copied();
        next();
        gain();
        total();
        status();
        check.close();
    }

    private static void due(String call, long got, long want) {
        check.due(call, got, want);
    }

    private static void due(String call, boolean got, boolean want) {
        check.due(call, got, want);
    }

    private static void refusalsDue(ManyEyes x, int... want) {
        for (int r = 0; r < 7; r++) {
            due("refusals " + (-1 - r), x.status(11 + r), want[r]);
        }
    }

    private static void newObject() {
        check.about("promise 1");
        ManyEyes x = new ManyEyes();
        for (int what = 0; what <= 8; what++) {
            due("status(" + what + ")", x.status(what), 0);
        }
        due("MARK", x.status(9), 950);
        due("LOOKS", x.status(10), 12);
        due("HASTE", x.status(18), 3);
        refusalsDue(x, 0, 0, 0, 0, 0, 0, 0);
        for (int s = 0; s < 8; s++) {
            due("holds(" + s + ")", x.holds(s), NONE);
            due("element(" + s + ", 0)", x.element(s, 0), 0);
        }
        due("changed(0)", x.changed(0), NONE);
        due("agreed(0, 0)", x.agreed(0, 0), NONE);
        due("share(0, 0, 0)", x.share(0, 0, 0), NONE);
        due("total(0, 0)", x.total(0, 0), NONE);
        due("reckon(false)", x.reckon(false), 1);
        due("changed(0)", x.changed(0), 0);
        due("next(0)", x.next(0), -1);
        due("judge()", x.judge(), 0);
        due("next(0)", x.next(0), NONE);
        refusalsDue(x, 1, 0, 0, 0, 0, 0, 0);
    }

    private static void row() {
        check.about("promise 2");
        ManyEyes x = Rooms.made(2, 1, 1);
        for (int sort = 0; sort < 4; sort++) {
            due("row(" + sort + ")", x.row(sort, sort, 10), 1);
            due("holds", x.holds(sort), 100 + sort);
        }
        due("row of 0", x.row(7, 3, 0), 1);
        due("holds", x.holds(7), 103);
        due("set in none", x.set(7, 0, 1), -5);
        due("row of 100", x.row(7, 2, 100), 1);
        due("set the last", x.set(7, 99, 5), 1);
        due("set behind", x.set(7, 100, 5), -5);
        due("new row", x.row(7, 2, 100), 1);
        due("element is 0 again", x.element(7, 99), 0);
        x.set(7, 3, 9);
        x.row(7, 2, 2);
        x.row(7, 2, 4);
        due("element of the longer one", x.element(7, 3), 0);
        x.show(6, 0);
        due("row over a judge", x.row(6, 1, 1), 1);
        due("holds", x.holds(6), 101);
        due("set in it", x.set(6, 0, 4), 1);
        due("row over a row", x.row(6, 1, 1), 1);
        due("the first is 0 again", x.element(6, 0), 0);
        x = Rooms.made(2, 1, 1);
        x.row(0, 1, 3);
        x.set(0, 2, 8);
        due("row(-1, ..)", x.row(-1, -1, -1), -1);
        due("row(8, ..)", x.row(8, 0, 1), -1);
        due("n -1", x.row(0, 4, -1), -4);
        due("least n", x.row(0, 0, Integer.MIN_VALUE), -4);
        due("sort -1", x.row(0, -1, 101), -6);
        due("sort 4", x.row(0, 4, 1), -6);
        due("n 101", x.row(0, 0, 101), -7);
        due("greatest n", x.row(0, 0, Integer.MAX_VALUE), -7);
        due("holds still", x.holds(0), 101);
        due("element still", x.element(0, 2), 8);
        refusalsDue(x, 2, 0, 0, 2, 0, 2, 2);
    }

    private static void set() {
        check.about("promise 3");
        ManyEyes x = Rooms.made(2, 1, 1);
        for (int sort = 0; sort < 4; sort++) {
            x.row(sort, sort, 2);
        }
        long[][] kept = {
            {200, -56, 200, 200, 200},
            {-129, 127, -129, -129, -129},
            {70000, 112, 4464, 70000, 70000},
            {0x8000, 0, -32768, 32768, 32768},
            {(1L << 32) + 5, 5, 5, 5, (1L << 32) + 5},
            {Long.MIN_VALUE, 0, 0, 0, Long.MIN_VALUE},
            {0x80000000L, 0, 0, Integer.MIN_VALUE, 0x80000000L},
        };
        for (long[] one : kept) {
            for (int sort = 0; sort < 4; sort++) {
                due("set", x.set(sort, 1, one[0]), 1);
                due("element of sort " + sort, x.element(sort, 1), one[1 + sort]);
                due("the other element", x.element(sort, 0), 0);
            }
        }
        x.show(4, 0);
        due("set(-1)", x.set(-1, 0, 1), -1);
        due("set(8)", x.set(8, 0, 1), -1);
        due("set in a judge", x.set(4, -1, 1), -2);
        due("set in nothing", x.set(5, -1, 1), -3);
        due("set -1", x.set(0, -1, 1), -5);
        due("set 2", x.set(0, 2, 1), -5);
        due("set the least", x.set(0, Integer.MIN_VALUE, 1), -5);
        due("set the greatest", x.set(0, Integer.MAX_VALUE, 1), -5);
        refusalsDue(x, 2, 1, 1, 0, 4, 0, 0);
    }

    private static void copy() {
        check.about("promise 4");
        ManyEyes x = Rooms.made(2, 1, 1);
        x.row(0, 2, 5);
        Rooms.put(x, 0, 0, 1, 2, 3, 4, 5);
        x.row(1, 2, 3);
        due("copy", x.copy(0, 1, 2, 1, 2), 1);
        rowDue(x, 1, 0, 3, 4);
        due("copy on the right", x.copy(0, 0, 0, 1, 4), 1);
        rowDue(x, 0, 1, 1, 2, 3, 4);
        Rooms.put(x, 0, 0, 1, 2, 3, 4, 5);
        due("copy on the left", x.copy(0, 0, 1, 0, 4), 1);
        rowDue(x, 0, 2, 3, 4, 5, 5);
        due("none at the ends", x.copy(0, 1, 5, 3, 0), 1);
        due("whole", x.copy(1, 0, 0, 0, 3), 1);
        rowDue(x, 0, 0, 3, 4, 5, 5);
        x.row(2, 3, 3);
        x.show(3, 0);
        due("no shelf p", x.copy(-1, 3, 0, 0, -1), -1);
        due("no shelf q", x.copy(0, 8, 0, 0, 1), -1);
        due("judge p", x.copy(3, 5, 0, 0, -1), -2);
        due("judge q", x.copy(5, 3, 0, 0, 1), -2);
        due("two sorts", x.copy(0, 2, 0, 0, -1), -2);
        due("nothing p", x.copy(5, 0, 0, 0, -1), -3);
        due("nothing q", x.copy(0, 5, 0, 0, 1), -3);
        due("nothing both", x.copy(5, 5, 0, 0, 1), -3);
        due("n -1", x.copy(0, 1, -1, 0, -1), -4);
        due("i -1", x.copy(0, 1, -1, 0, 1), -5);
        due("j -1", x.copy(0, 1, 0, -1, 1), -5);
        due("i -1, none", x.copy(0, 1, -1, 0, 0), -5);
        due("end of p", x.copy(1, 0, 1, 0, 3), -5);
        due("end of q", x.copy(0, 1, 0, 1, 3), -5);
        due("none behind p", x.copy(0, 1, 6, 0, 0), -5);
        due("none behind q", x.copy(0, 1, 0, 4, 0), -5);
        due("greatest n", x.copy(0, 1, 1, 1, Integer.MAX_VALUE), -5);
        due("greatest i", x.copy(0, 1, Integer.MAX_VALUE, 1, 1), -5);
        rowDue(x, 0, 0, 3, 4, 5, 5);
        rowDue(x, 1, 0, 3, 4);
        refusalsDue(x, 2, 3, 3, 1, 9, 0, 0);
    }

    private static void rowDue(ManyEyes x, int s, long... want) {
        for (int i = 0; i < want.length; i++) {
            due("element(" + s + ", " + i + ")", x.element(s, i), want[i]);
        }
    }

    private static void element() {
        check.about("promise 5");
        ManyEyes x = Rooms.made(2, 1, 1);
        x.row(0, 3, 3);
        Rooms.put(x, 0, 0, 7, 8, 9);
        rowDue(x, 0, 7, 8, 9);
        due("-1", x.element(0, -1), 0);
        due("3", x.element(0, 3), 0);
        due("no shelf -1", x.element(-1, 0), 0);
        due("no shelf 8", x.element(8, 0), 0);
        due("nothing", x.element(1, 0), 0);
        x.show(0, 0);
        due("a judge", x.element(0, 1), 0);
        x.show(0, NONE);
        due("nothing any more", x.element(0, 1), 0);
        refusalsDue(x, 0, 0, 0, 0, 0, 0, 0);
    }

    private static void show() {
        check.about("promise 6");
        ManyEyes x = Rooms.made(2, 1, 2);
        x.row(0, 0, 3);
        due("over a row", x.show(0, 1), 1);
        due("holds", x.holds(0), 1);
        due("nothing", x.show(0, NONE), 0);
        due("holds", x.holds(0), NONE);
        due("nothing again", x.show(0, NONE), 0);
        x.row(0, 0, 3);
        due("nothing over a row", x.show(0, NONE), 0);
        due("holds", x.holds(0), NONE);
        due("set in it", x.set(0, 0, 1), -3);
        x.leave(1);
        due("one that has left", x.show(7, 1), 1);
        due("holds", x.holds(7), 1);
        due("shelf -1", x.show(-1, 0), -1);
        due("shelf 8", x.show(8, NONE), -1);
        due("judge 2", x.show(7, 2), -1);
        due("judge -2", x.show(7, -2), -1);
        due("holds still", x.holds(7), 1);
        refusalsDue(x, 4, 0, 1, 0, 0, 0, 0);
    }

    private static void holds() {
        check.about("promise 7");
        ManyEyes x = Rooms.made(2, 1, 3);
        due("nothing", x.holds(3), NONE);
        due("shelf -1", x.holds(-1), NONE);
        due("shelf 8", x.holds(8), NONE);
        x.row(3, 2, 0);
        due("ints", x.holds(3), 102);
        x.show(3, 2);
        due("judge 2", x.holds(3), 2);
        x.show(3, 0);
        due("judge 0", x.holds(3), 0);
        x.leave(0);
        due("judge 0 has left", x.holds(3), 0);
        refusalsDue(x, 0, 0, 0, 0, 0, 0, 0);
    }

    private static void countsIn() {
        check.about("promise 8");
        ManyEyes x = Rooms.made(2, 8, 2);
        x.question(3, 0, 1);
        Rooms.give(x, 0, 0, 1, 0, 1, 0, 1);
        x.answer(0, 6, 0, 0, 1);
        x.answer(0, 6, 1, 2, 9);
        Rooms.give(x, 1, 0, 1, 0, 1, 0);
        x.show(0, 0);
        x.show(1, 1);
        due("fair ones of both questions", x.countsIn(0), 7);
        due("not copied yet", x.countsIn(1), 5);
        x.answer(1, 5, 0, 1, 9);
        x.answer(1, 7, 0, 1, 9);
        due("the one that isn't copied", x.countsIn(1), 1);
        x.leave(0);
        due("of one that has left", x.countsIn(0), 0);
        due("all again", x.countsIn(1), 7);
        x.row(2, 0, 1);
        due("shelf -1", x.countsIn(-1), -1);
        due("shelf 8", x.countsIn(8), -1);
        due("a row", x.countsIn(2), -2);
        due("nothing", x.countsIn(3), -3);
        refusalsDue(x, 2, 1, 1, 0, 0, 0, 0);
    }

    private static void question() {
        check.about("promise 9");
        ManyEyes x = new ManyEyes();
        due("first with parent 0", x.question(2, 0, 0), -6);
        due("first with parent -2", x.question(2, -2, 0), -6);
        due("first of 1", x.question(1, NONE, 0), -6);
        due("first of 5", x.question(5, NONE, 0), -6);
        due("first", x.question(4, NONE, -77), 0);
        due("no parent", x.question(9, NONE, 0), -1);
        due("parent of its own", x.question(2, 1, 0), -1);
        due("wanted -1", x.question(2, 0, -1), -6);
        due("wanted 4", x.question(2, 0, 4), -6);
        due("of 1", x.question(1, 0, 0), -6);
        due("of 5", x.question(5, 0, 0), -6);
        due("wanted 3", x.question(2, 0, 3), 1);
        due("wanted 2 of 2", x.question(3, 1, 2), -6);
        due("wanted 1 of 2", x.question(3, 1, 1), 2);
        due("parent 2", x.question(2, 2, 0), 3);
        due("parent 0 again", x.question(2, 0, 3), 4);
        due("status", x.status(1), 5);
        due("sixth, no parent", x.question(2, 5, 0), -1);
        due("sixth, wrong", x.question(2, 0, 4), -6);
        due("sixth", x.question(2, 0, 0), -7);
        due("status", x.status(1), 5);
        refusalsDue(x, 3, 0, 0, 0, 0, 10, 1);
        x.things(1);
        x.judge();
        due("four answers", x.share(0, 0, 3), 250000);
        due("two answers", x.share(0, 1, 1), 500000);
        due("three answers", x.share(0, 2, 2), 333333);
    }

    private static void things() {
        check.about("promise 10");
        ManyEyes x = new ManyEyes();
        due("none", x.things(0), 0);
        due("3", x.things(3), 3);
        due("0 more", x.things(0), 3);
        due("-1", x.things(-1), -4);
        due("the least", x.things(Integer.MIN_VALUE), -4);
        due("38", x.things(38), -7);
        due("the greatest", x.things(Integer.MAX_VALUE), -7);
        due("status", x.status(0), 3);
        due("37", x.things(37), 40);
        due("1 more", x.things(1), -7);
        due("0 more", x.things(0), 40);
        refusalsDue(x, 0, 0, 0, 2, 0, 0, 3);
    }

    private static void judge() {
        check.about("promise 11");
        ManyEyes x = new ManyEyes();
        for (int j = 0; j < 24; j++) {
            due("judge()", x.judge(), j);
        }
        due("one more", x.judge(), -7);
        x.leave(3);
        due("one more, one has left", x.judge(), -7);
        due("status", x.status(2), 24);
        refusalsDue(x, 0, 0, 0, 0, 0, 0, 2);
    }

    private static void know() {
        check.about("promise 12");
        ManyEyes x = Rooms.made(3, 2, 1);
        due("know", x.know(0, 0, 2), 1);
        due("share of the truth", x.share(0, 0, 2), 1000000);
        due("share of another", x.share(0, 0, 0), 0);
        due("leading", x.leading(0, 0), 2);
        due("another truth", x.know(0, 0, 1), 1);
        due("leading", x.leading(0, 0), 1);
        due("not any more", x.know(0, 0, NONE), 1);
        due("not ever", x.know(1, 0, NONE), 1);
        due("leading", x.leading(0, 0), 0);
        due("status", x.status(4), 0);
        x.know(0, 0, 0);
        due("no thing", x.know(2, 0, 7), -1);
        due("thing -1", x.know(-1, 0, 0), -1);
        due("no question", x.know(0, 1, 0), -1);
        due("question -1", x.know(0, -1, 0), -1);
        due("truth 3", x.know(0, 0, 3), -6);
        due("truth -2", x.know(0, 0, -2), -6);
        due("still known", x.is(2, 0, 0), true);
        refusalsDue(x, 4, 0, 0, 0, 0, 2, 0);
    }

    private static void answer() {
        check.about("promise 13");
        ManyEyes x = Rooms.made(2, 40, 2);
        x.question(4, 0, 1);
        due("ticks 3", x.answer(0, 0, 0, 1, 3), 0);
        due("ticks 2", x.answer(0, 1, 0, 1, 2), 1);
        due("not open", x.answer(0, 0, 1, 3, 9), 0);
        due("again", x.answer(0, 0, 0, 1, 3), -6);
        due("again after a hasty one", x.answer(0, 1, 0, 1, 30), -6);
        due("answer 2", x.answer(0, 2, 0, 2, 9), -6);
        due("answer -1", x.answer(0, 2, 0, -1, 9), -6);
        due("ticks -1", x.answer(0, 2, 0, 1, -1), -6);
        due("no judge", x.answer(2, 2, 0, 5, 9), -1);
        due("judge -1", x.answer(-1, 2, 0, 1, 9), -1);
        due("no thing", x.answer(0, 40, 0, 1, 9), -1);
        due("thing -1", x.answer(0, -1, 0, 1, 9), -1);
        due("no question", x.answer(0, 2, 2, 1, 9), -1);
        due("question -1", x.answer(0, 2, -1, 1, 9), -1);
        due("status", x.status(7), 3);
        for (int t = 2; t < 19; t++) {
            due("fair", x.answer(0, t, 0, 0, 9), 0);
        }
        due("the 21st", x.answer(0, 19, 0, 0, 9), 2);
        due("hasty ahead of tired", x.answer(0, 20, 0, 0, 0), 1);
        due("tired", x.answer(0, 21, 0, 0, Integer.MAX_VALUE), 2);
        due("another judge", x.answer(1, 21, 0, 0, 9), 0);
        x.rest(0);
        due("after a rest", x.answer(0, 22, 0, 0, 9), 0);
        x.know(23, 0, 1);
        due("of a known one", x.answer(0, 23, 0, 0, 9), 0);
        x.leave(1);
        due("of one that has left", x.answer(1, 23, 0, 0, 9), -1);
        refusalsDue(x, 7, 0, 0, 0, 0, 5, 0);
        x.bar(2, 50);
        due("later haste leaves it", x.how(0, 23, 0), 0);
        due("as it is given", x.answer(0, 24, 0, 0, 49), 1);
        due("as it is given", x.answer(0, 25, 0, 0, 50), 0);
    }

    private static void answers() {
        check.about("promise 14");
        ManyEyes x = Rooms.made(2, 8, 2);
        x.row(0, 0, 14);
        Rooms.put(x, 0, 0, 0, 1, 0, 1, 9, 1, 2, 0, 0, 2, 1, 3, 0, 0);
        due("two and a part", x.answers(0), 2);
        due("the first", x.how(0, 1, 0), 0);
        due("the second is hasty", x.how(1, 2, 0), 1);
        due("not the third", x.how(1, 3, 0), NONE);
        due("given already", x.answers(0), 0);
        x.row(1, 3, 15);
        Rooms.put(x, 1, 0, 0, 3, 0, 1, 9, 0, 4, 0, 2, 9, 0, 5, 0, 1, 9);
        due("until one would be refused", x.answers(1), 1);
        due("not the one behind it", x.how(0, 5, 0), NONE);
        long beyond = 1L << 32;
        Rooms.put(x, 1, 0, beyond + 1, beyond + 6, -beyond, beyond + 1, beyond + 9);
        due("lowest 32 bits", x.answers(1), 1);
        due("it is there", x.how(1, 6, 0), 0);
        Rooms.put(x, 1, 0, 1, 7, 0, 0, 0x80000000L);
        due("ticks below 0 as an int", x.answers(1), 0);
        x.row(2, 1, 4);
        due("less than one", x.answers(2), 0);
        x.row(2, 1, 0);
        due("none", x.answers(2), 0);
        x.row(2, 2, 5);
        Rooms.put(x, 2, 0, 2, 0, 0, 0, 9);
        due("nobody", x.answers(2), 0);
        x.row(3, 0, 100);
        due("twice the same", x.answers(3), 1);
        refusalsDue(x, 0, 0, 0, 0, 0, 0, 0);
        x.show(5, 0);
        due("shelf -1", x.answers(-1), -1);
        due("shelf 8", x.answers(8), -1);
        due("a judge", x.answers(5), -2);
        due("nothing", x.answers(6), -3);
        refusalsDue(x, 2, 1, 1, 0, 0, 0, 0);
        x = Rooms.made(2, 40, 1);
        x.row(0, 0, 100);
        for (int t = 0; t < 20; t++) {
            Rooms.put(x, 0, 5 * t, 0, t, 0, 0, 9);
        }
        due("all of a full row", x.answers(0), 20);
        due("the next is tired", x.answer(0, 30, 0, 0, 9), 2);
    }

    private static void rest() {
        check.about("promise 15");
        ManyEyes x = Rooms.made(2, 40, 2);
        for (int t = 0; t < 20; t++) {
            x.answer(0, t, 0, 0, 0);
        }
        due("tired of hasty ones", x.answer(0, 20, 0, 0, 9), 2);
        due("rest of another", x.rest(1), 1);
        due("tired still", x.answer(0, 21, 0, 0, 9), 2);
        due("rest", x.rest(0), 1);
        due("fair", x.answer(0, 22, 0, 0, 9), 0);
        for (int t = 23; t < 40; t++) {
            due("fair", x.answer(0, t, 0, 0, 9), 0);
        }
        due("tired it stays", x.how(0, 21, 0), 2);
        x.question(2, 0, 0);
        due("the 19th", x.answer(0, 0, 1, 0, 9), 0);
        due("the 20th", x.answer(0, 1, 1, 0, 9), 0);
        due("the 21st", x.answer(0, 2, 1, 0, 9), 2);
        due("no judge", x.rest(2), -1);
        due("judge -1", x.rest(-1), -1);
        x.leave(0);
        due("one that has left", x.rest(0), -1);
        refusalsDue(x, 3, 0, 0, 0, 0, 0, 0);
    }

    private static void leave() {
        check.about("promise 16");
        ManyEyes x = Rooms.made(2, 8, 4);
        Rooms.give(x, 0, 0, 0, 0, 0, 0, 0);
        x.answer(0, 7, 0, 1, 0);
        Rooms.give(x, 1, 0, 0, 0, 0, 0, 0);
        Rooms.give(x, 2, 0, 0, 0, 0, 0, 0);
        due("copied of the least", x.copied(2), 0);
        x.reckon(false);
        due("agreed", x.agreed(0, 0), 0);
        due("all kinds of answers", x.leave(0), 7);
        due("copied of the next", x.copied(2), 1);
        due("of none", x.copied(1), NONE);
        due("looks", x.looks(0, 0), 1);
        due("looks at the hasty one", x.looks(7, 0), 0);
        due("how", x.how(0, 0, 0), NONE);
        due("top", x.top(0, 0, 0, 0), 0);
        due("bottom", x.bottom(0, 0, 0), 0);
        due("gain", x.gain(0, 0, 0), NONE);
        due("agreed stays", x.agreed(0, 0), 0);
        due("answers that are there", x.status(7), 12);
        due("have left", x.status(3), 1);
        due("judges ever", x.status(2), 4);
        due("without answers", x.leave(3), 0);
        due("again", x.leave(3), -1);
        due("no judge", x.leave(4), -1);
        due("judge -1", x.leave(-1), -1);
        refusalsDue(x, 3, 0, 0, 0, 0, 0, 0);
        x.judge();
        due("a new one", x.copied(4), NONE);
    }

    private static void bar() {
        check.about("promise 17");
        ManyEyes x = new ManyEyes();
        int[][] bounds = {{9, 1, 1000}, {10, 1, 24}, {18, 0, 100}};
        for (int what = 0; what < 3; what++) {
            int shown = bounds[what][0];
            due("least", x.bar(what, bounds[what][1]), 1);
            due("status", x.status(shown), bounds[what][1]);
            due("greatest", x.bar(what, bounds[what][2]), 1);
            due("status", x.status(shown), bounds[what][2]);
            due("below", x.bar(what, bounds[what][1] - 1), -6);
            due("above", x.bar(what, bounds[what][2] + 1), -6);
            due("status", x.status(shown), bounds[what][2]);
        }
        due("what -1", x.bar(-1, 5), -6);
        due("what 3", x.bar(3, 5), -6);
        refusalsDue(x, 0, 0, 0, 0, 0, 8, 0);
    }

    private static void reckon() {
        check.about("promise 18");
        ManyEyes x = Rooms.made(2, 8, 2);
        due("nothing to agree on", x.reckon(false), 1);
        due("known alone", x.reckon(true), 0);
        // All SHARES are one half: all become 0, then TOP(1, 0) by BOTTOM(0) is 4/9, below 1/2.
        Rooms.give(x, 0, 0, 1, 0, 1, 0, 1, 0);
        due("by first tables", x.share(1, 0, 0), 500000);
        due("steps", x.reckon(false), 3);
        due("mended", x.agreed(1, 0), 1);
        due("top", x.top(0, 0, 1, 1), 4);
        due("share by the tables", x.share(1, 0, 1), 827586);
        due("the same again", x.reckon(false), 3);
        due("nothing but agreed ones: at first", x.reckon(true), 0);
        due("top", x.top(0, 0, 1, 1), 1);
        due("share", x.share(1, 0, 1), 500000);
        due("nothing agreed", x.status(5), 0);
        // A known one isn't agreed on, but counts in the tables.
        x.know(0, 0, 1);
        due("steps with a known one", x.reckon(false) > 0, true);
        due("not agreed", x.agreed(0, 0), NONE);
        due("tables from it", x.top(0, 0, 0, 1) > 1, true);
        // Hasty answers count in nothing.
        x = Rooms.made(2, 8, 1);
        x.answer(0, 0, 0, 1, 0);
        due("hasty ones", x.reckon(false), 1);
        due("not agreed", x.agreed(0, 0), NONE);
        x.know(0, 0, 1);
        x.reckon(true);
        due("no table", x.top(0, 0, 1, 1), 1);
        // The tables stay until the next one.
        x.answer(0, 1, 0, 1, 9);
        x.know(1, 0, 1);
        due("top ahead", x.top(0, 0, 1, 1), 1);
        x.reckon(true);
        due("top behind", x.top(0, 0, 1, 1), 2);
        x.know(1, 0, NONE);
        due("top stays", x.top(0, 0, 1, 1), 2);
        x.reckon(true);
        due("top is as at first", x.top(0, 0, 1, 1), 1);
        x.answer(0, 2, 0, 0, 9);
        x.know(2, 0, 0);
        x.reckon(true);
        due("top of 0 as 0", x.top(0, 0, 0, 0), 2);
        x.know(2, 0, NONE);
        x.reckon(true);
        due("as at first", x.top(0, 0, 0, 0), 1);
        thirtySteps();
        oneAlone();
    }

    private static void thirtySteps() {
        ManyEyes x = Rooms.made(4, 40, RESTLESS.length);
        for (int j = 0; j < RESTLESS.length; j++) {
            for (int t = 0; t < 40; t++) {
                if (RESTLESS[j].charAt(t) != '.') {
                    x.rest(j);
                    x.answer(j, t, 0, RESTLESS[j].charAt(t) - '0', 9);
                }
            }
        }
        due("30 steps at most", x.reckon(false), 30);
        due("the last one still changes", x.changed(29) > 0, true);
        due("none behind it", x.changed(30), NONE);
        due("and again", x.reckon(false), 30);
    }

    /** A step that changes one case alone isn't the last one. */
    private static void oneAlone() {
        ManyEyes x = Rooms.made(2, 3, 1);
        x.answer(0, 1, 0, 1, 9);
        due("one case", x.reckon(false), 2);
        due("step 0", x.changed(0), 1);
        due("step 1", x.changed(1), 0);
        due("agreed on the least", x.agreed(1, 0), 0);
        due("top", x.top(0, 0, 1, 0), 2);
        due("bottom", x.bottom(0, 0, 0), 3);
    }

    private static void changed() {
        check.about("promise 19");
        ManyEyes x = Rooms.made(2, 8, 1);
        due("ahead of all", x.changed(0), NONE);
        Rooms.give(x, 0, 0, 1, 0, 1, 0, 1, 0);
        x.reckon(false);
        due("step 0", x.changed(0), 7);
        due("step 1", x.changed(1), 3);
        due("step 2", x.changed(2), 0);
        due("step 3", x.changed(3), NONE);
        due("step -1", x.changed(-1), NONE);
        due("the greatest", x.changed(Integer.MAX_VALUE), NONE);
        x.reckon(true);
        due("no step", x.changed(0), NONE);
        for (int t = 0; t < 7; t++) {
            x.know(t, 0, 0);
        }
        due("all known", x.reckon(false), 1);
        due("step 0", x.changed(0), 0);
        due("step 1 of an earlier one", x.changed(1), NONE);
        refusalsDue(x, 0, 0, 0, 0, 0, 0, 0);
    }

    private static void agreed() {
        check.about("promise 20");
        ManyEyes x = Rooms.made(2, 8, 2);
        Rooms.give(x, 0, 0, 1, 0, 1, 0, 1, 0);
        due("ahead", x.agreed(1, 0), NONE);
        x.reckon(false);
        due("agreed on 0", x.agreed(0, 0), 0);
        due("agreed on 1", x.agreed(1, 0), 1);
        due("without an answer", x.agreed(7, 0), NONE);
        x.know(1, 0, 0);
        due("stays when known", x.agreed(1, 0), 1);
        due("status", x.status(5), 7);
        x.answer(1, 7, 0, 0, 9);
        due("not ahead of the next", x.agreed(7, 0), NONE);
        x.leave(0);
        due("stays when they leave", x.agreed(0, 0), 0);
        x.reckon(false);
        due("gone", x.agreed(0, 0), NONE);
        due("come", x.agreed(7, 0), 0);
        x.reckon(true);
        due("none with known alone", x.agreed(7, 0), NONE);
        due("no thing", x.agreed(8, 0), NONE);
        due("thing -1", x.agreed(-1, 0), NONE);
        due("no question", x.agreed(0, 1), NONE);
        due("question -1", x.agreed(0, -1), NONE);
        refusalsDue(x, 0, 0, 0, 0, 0, 0, 0);
    }

    /** Judge 0 said 0 and 1 when it was 0, and 0 when it was 1; thing 3 is open and has 0. */
    private static ManyEyes learned() {
        ManyEyes x = Rooms.made(2, 5, 2);
        x.know(0, 0, 0);
        x.know(1, 0, 0);
        x.know(2, 0, 1);
        Rooms.give(x, 0, 0, 1, 0, 0);
        x.reckon(true);
        return x;
    }

    private static void top() {
        check.about("promise 21");
        ManyEyes x = learned();
        due("top(0, 0)", x.top(0, 0, 0, 0), 2);
        due("top(1, 0)", x.top(0, 0, 1, 0), 2);
        due("top(0, 1)", x.top(0, 0, 0, 1), 2);
        due("top(1, 1)", x.top(0, 0, 1, 1), 1);
        due("of one without answers", x.top(1, 0, 1, 1), 1);
        x.judge();
        due("of a new one", x.top(2, 0, 0, 0), 1);
        x.question(3, 0, 0);
        due("of a new question", x.top(0, 1, 2, 2), 1);
        due("a 2", x.top(0, 0, 2, 0), 0);
        due("b 2", x.top(0, 0, 0, 2), 0);
        due("a -1", x.top(0, 0, -1, 0), 0);
        due("b -1", x.top(0, 0, 0, -1), 0);
        due("no judge", x.top(3, 0, 0, 0), 0);
        due("judge -1", x.top(-1, 0, 0, 0), 0);
        due("no question", x.top(0, 2, 0, 0), 0);
        due("question -1", x.top(0, -1, 0, 0), 0);
        x.leave(0);
        due("one that has left", x.top(0, 0, 0, 0), 0);
        refusalsDue(x, 0, 0, 0, 0, 0, 0, 0);
        // Tables of two questions stay apart, and answers that don't count aren't in them.
        x = Rooms.made(2, 8, 2);
        x.question(3, 0, 0);
        x.answer(0, 0, 1, 2, 9);
        x.know(0, 1, 1);
        x.know(0, 0, 1);
        Rooms.give(x, 0, 1, 1, 1, 1, 1, 1);
        Rooms.give(x, 1, 1, 1, 1, 1, 1, 1);
        x.reckon(true);
        due("of question 1", x.top(0, 1, 2, 1), 2);
        due("of question 0", x.top(0, 0, 1, 1), 2);
        due("of one that is copied", x.top(1, 0, 1, 1), 1);
    }

    private static void bottom() {
        check.about("promise 22");
        ManyEyes x = learned();
        due("bottom(0)", x.bottom(0, 0, 0), 4);
        due("bottom(1)", x.bottom(0, 0, 1), 3);
        due("of one without answers", x.bottom(1, 0, 1), 2);
        x.question(3, 0, 0);
        x.question(4, 0, 0);
        due("of three", x.bottom(0, 1, 2), 3);
        due("of four", x.bottom(0, 2, 3), 4);
        due("b 2", x.bottom(0, 0, 2), 0);
        due("b -1", x.bottom(0, 0, -1), 0);
        due("no judge", x.bottom(2, 0, 0), 0);
        due("judge -1", x.bottom(-1, 0, 0), 0);
        due("no question", x.bottom(0, 3, 0), 0);
        due("question -1", x.bottom(0, -1, 0), 0);
        x.leave(0);
        due("one that has left", x.bottom(0, 0, 0), 0);
        refusalsDue(x, 0, 0, 0, 0, 0, 0, 0);
    }

    private static void share() {
        check.about("promise 23");
        ManyEyes x = learned();
        // 2/4 to 2/3 is 3 to 4.
        due("share of 0", x.share(3, 0, 0), 428571);
        due("share of 1", x.share(3, 0, 1), 571428);
        due("without an answer", x.share(4, 0, 1), 500000);
        due("known", x.share(2, 0, 1), 1000000);
        due("known not", x.share(2, 0, 0), 0);
        x.answer(1, 3, 0, 1, 9);
        due("a judge like all", x.share(3, 0, 0), 428571);
        x.answer(0, 4, 0, 1, 9);
        // 2/4 to 1/3 is 3 to 2.
        due("an exact one", x.share(4, 0, 0), 600000);
        due("b 2", x.share(3, 0, 2), NONE);
        due("b -1", x.share(3, 0, -1), NONE);
        due("no thing", x.share(5, 0, 0), NONE);
        due("thing -1", x.share(-1, 0, 0), NONE);
        due("no question", x.share(0, 1, 0), NONE);
        due("question -1", x.share(0, -1, 0), NONE);
        refusalsDue(x, 0, 0, 0, 0, 0, 0, 0);
        exactProducts();
    }

    /** Odds of 3^23 to 1 of judges who were right in 4 of 4, three judges a batch of things. */
    private static void exactProducts() {
        ManyEyes x = Rooms.made(2, 36, 24);
        for (int t = 0; t < 32; t++) {
            x.know(t, 0, t % 2);
        }
        for (int j = 0; j < 24; j++) {
            for (int t = j % 8 * 4; t < j % 8 * 4 + 4; t++) {
                x.answer(j, t, 0, t % 2, 9);
            }
        }
        x.reckon(true);
        due("top", x.top(0, 0, 1, 1), 3);
        due("bottom", x.bottom(23, 0, 1), 4);
        for (int j = 0; j < 24; j++) {
            x.answer(j, 32, 0, 1, 9);
            if (j < 8) {
                x.answer(j, 33, 0, j % 2, 9);
            }
        }
        x.bar(0, 1000);
        x.bar(1, 24);
        x.leave(22);
        due("looks", x.looks(32, 0), 23);
        due("share of 1", x.share(32, 0, 1), 999999);
        due("share of 0", x.share(32, 0, 0), 0);
        due("leading", x.leading(32, 0), 1);
        due("below 1000 thousandths", x.is(1, 32, 0), false);
        due("4 to 4", x.share(33, 0, 0), 500000);
        due("the least leads", x.leading(33, 0), 0);
        x.answer(0, 34, 0, 1, 9);
        due("3/4", x.share(34, 0, 1), 750000);
        x.bar(0, 750);
        due("750 thousandths", x.is(1, 34, 0), true);
        x.bar(0, 751);
        due("not 751", x.is(1, 34, 0), false);
    }

    private static void leading() {
        check.about("promise 24");
        ManyEyes x = learned();
        due("greatest", x.leading(3, 0), 1);
        due("the least of like ones", x.leading(4, 0), 0);
        due("known", x.leading(2, 0), 1);
        due("no thing", x.leading(5, 0), NONE);
        due("thing -1", x.leading(-1, 0), NONE);
        due("no question", x.leading(0, 1), NONE);
        due("question -1", x.leading(0, -1), NONE);
        refusalsDue(x, 0, 0, 0, 0, 0, 0, 0);
        // Of three: 1 and 2 are alike and above 0.
        x = Rooms.made(3, 4, 1);
        x.know(0, 0, 1);
        x.know(1, 0, 2);
        Rooms.give(x, 0, 2, 2, 2);
        x.reckon(true);
        due("share of 0", x.share(2, 0, 0), 250000);
        due("share of 1", x.share(2, 0, 1), 375000);
        due("the least of two", x.leading(2, 0), 1);
    }

    private static void isOpen() {
        check.about("promise 25, OPEN");
        ManyEyes x = Rooms.made(2, 2, 1);
        x.question(3, 0, 1);
        x.question(2, 1, 2);
        x.question(2, 0, 0);
        due("question 0", x.is(0, 0, 0), true);
        due("parent hasn't ended", x.is(0, 0, 3), false);
        x.know(0, 0, 1);
        due("wanted", x.is(0, 0, 1), true);
        due("not wanted", x.is(0, 0, 3), false);
        due("another thing", x.is(0, 1, 1), false);
        due("grandchild", x.is(0, 0, 2), false);
        x.know(0, 1, 2);
        due("grandchild of two that are wanted", x.is(0, 0, 2), true);
        x.know(0, 0, 0);
        due("parent has ended, but isn't open", x.is(0, 0, 2), false);
        due("ended still", x.is(1, 0, 1), true);
        due("child of 0", x.is(0, 0, 3), true);
        x.know(0, 0, NONE);
        due("not known any more", x.is(0, 0, 3), false);
        // By LOOKS, without anything known: LEADING is 0.
        x.bar(1, 1);
        x.answer(0, 0, 0, 1, 9);
        due("ended by looks", x.is(0, 0, 3), true);
        due("leading is 0", x.is(0, 0, 1), false);
        isNothing(x, 0);
    }

    private static void isEnded() {
        check.about("promise 25, ENDED");
        ManyEyes x = Rooms.made(2, 8, 14);
        due("without an answer", x.is(1, 0, 0), false);
        x.bar(0, 500);
        due("answers must count", x.is(1, 0, 0), false);
        x.answer(0, 0, 0, 0, 0);
        due("a hasty one doesn't", x.is(1, 0, 0), false);
        x.answer(1, 0, 0, 0, 9);
        due("share is mark", x.is(1, 0, 0), true);
        x.bar(0, 501);
        due("share is below mark", x.is(1, 0, 0), false);
        x.bar(0, 950);
        for (int j = 2; j < 12; j++) {
            x.answer(j, 0, 0, j % 2, 9);
        }
        due("11 looks", x.looks(0, 0), 11);
        due("11 looks are too few", x.is(1, 0, 0), false);
        x.answer(12, 0, 0, 0, 9);
        due("12 looks", x.is(1, 0, 0), true);
        x.bar(1, 13);
        due("12 of 13 looks", x.is(1, 0, 0), false);
        x.bar(1, 12);
        x.leave(12);
        due("one has left", x.is(1, 0, 0), false);
        x.know(0, 0, 1);
        due("known", x.is(1, 0, 0), true);
        x.know(1, 0, 1);
        due("known without an answer", x.is(1, 1, 0), true);
        // A mark that is met exactly: 9 of 10.
        x = Rooms.made(2, 18, 1);
        for (int t = 0; t < 16; t++) {
            x.know(t, 0, t / 8);
            x.answer(0, t, 0, t / 8, 9);
        }
        x.reckon(true);
        x.answer(0, 16, 0, 1, 9);
        due("share", x.share(16, 0, 1), 900000);
        x.bar(0, 900);
        due("mark 900", x.is(1, 16, 0), true);
        x.bar(0, 901);
        due("mark 901", x.is(1, 16, 0), false);
        isNothing(x, 1);
    }

    private static void isKnown() {
        check.about("promise 25, KNOWN");
        ManyEyes x = Rooms.made(2, 2, 2);
        due("not known", x.is(2, 0, 0), false);
        x.know(0, 0, 0);
        due("known", x.is(2, 0, 0), true);
        due("another", x.is(2, 1, 0), false);
        x.answer(0, 1, 0, 0, 9);
        x.reckon(false);
        due("agreed isn't known", x.is(2, 1, 0), false);
        x.know(0, 0, NONE);
        due("not any more", x.is(2, 0, 0), false);
        x.know(0, 0, 1);
        due("what -1", x.is(-1, 0, 0), false);
        due("what 3", x.is(3, 0, 0), false);
        isNothing(x, 2);
    }

    private static void isNothing(ManyEyes x, int what) {
        due("no thing", x.is(what, x.status(0), 0), false);
        due("thing -1", x.is(what, -1, 0), false);
        due("no question", x.is(what, 0, x.status(1)), false);
        due("question -1", x.is(what, 0, -1), false);
        refusalsDue(x, 0, 0, 0, 0, 0, 0, 0);
    }

    private static void looks() {
        check.about("promise 26");
        ManyEyes x = Rooms.made(2, 40, 3);
        due("none", x.looks(0, 0), 0);
        Rooms.give(x, 0, 0, 1, 0, 1, 0, 1);
        Rooms.give(x, 1, 0, 1, 0, 1, 0);
        due("two", x.looks(0, 0), 2);
        x.answer(1, 5, 0, 1, 9);
        due("one of them is copied now", x.looks(0, 0), 1);
        x.answer(2, 0, 0, 1, 2);
        due("hasty", x.looks(0, 0), 1);
        for (int t = 6; t < 21; t++) {
            x.answer(0, t, 0, 0, 9);
        }
        due("the 20th", x.looks(19, 0), 1);
        due("the 21st, tired", x.looks(20, 0), 0);
        x.know(0, 0, 1);
        due("known", x.looks(0, 0), 1);
        x.leave(0);
        due("not copied any more", x.looks(0, 0), 1);
        due("left", x.looks(19, 0), 0);
        due("no thing", x.looks(40, 0), NONE);
        due("thing -1", x.looks(-1, 0), NONE);
        due("no question", x.looks(0, 1), NONE);
        due("question -1", x.looks(0, -1), NONE);
        refusalsDue(x, 0, 0, 0, 0, 0, 0, 0);
    }

    private static void how() {
        check.about("promise 27");
        ManyEyes x = Rooms.made(2, 40, 2);
        Rooms.give(x, 0, 0, 1, 0, 1, 0, 1);
        x.answer(0, 6, 0, 1, 0);
        Rooms.give(x, 1, 0, 1, 0, 1, 0, 1);
        x.answer(1, 6, 0, 1, 9);
        x.answer(1, 7, 0, 1, 9);
        due("it counts", x.how(0, 0, 0), 0);
        due("it is copied", x.how(1, 0, 0), 3);
        due("where the other is hasty", x.how(1, 6, 0), 0);
        due("where the other has none", x.how(1, 7, 0), 0);
        x.answer(0, 7, 0, 1, 9);
        due("where the other has one now", x.how(1, 7, 0), 3);
        due("hasty", x.how(0, 6, 0), 1);
        for (int t = 8; t < 21; t++) {
            x.answer(0, t, 0, 0, 9);
        }
        due("tired", x.how(0, 20, 0), 2);
        due("none", x.how(0, 21, 0), NONE);
        // A tired or hasty answer of the one who copies stays what it is.
        x.answer(1, 8, 0, 0, 1);
        due("hasty of the one who copies", x.how(1, 8, 0), 1);
        due("no judge", x.how(2, 0, 0), NONE);
        due("judge -1", x.how(-1, 0, 0), NONE);
        due("no thing", x.how(0, 40, 0), NONE);
        due("thing -1", x.how(0, -1, 0), NONE);
        due("no question", x.how(0, 0, 1), NONE);
        due("question -1", x.how(0, 0, -1), NONE);
        x.leave(0);
        due("left", x.how(0, 0, 0), NONE);
        due("counts again", x.how(1, 0, 0), 0);
        refusalsDue(x, 0, 0, 0, 0, 0, 0, 0);
    }

    private static void copied() {
        check.about("promise 28");
        ManyEyes x = Rooms.made(2, 12, 4);
        Rooms.give(x, 1, 0, 1, 0, 1, 0);
        Rooms.give(x, 2, 0, 1, 0, 1, 0);
        due("5 alike", x.copied(2), NONE);
        x.answer(1, 5, 0, 1, 9);
        x.answer(2, 5, 0, 1, 1);
        due("a hasty one isn't fair", x.copied(2), NONE);
        x.answer(1, 6, 0, 1, 9);
        due("the other has none", x.copied(2), NONE);
        x.answer(2, 6, 0, 1, 9);
        due("6 alike", x.copied(2), 1);
        due("not the earlier one", x.copied(1), NONE);
        // 0 comes late, and is the least of two.
        Rooms.give(x, 0, 0, 1, 0, 1, 0, 1, 1);
        due("the least", x.copied(2), 0);
        due("it too", x.copied(1), 0);
        // One that differs ends it, and for good.
        x.answer(0, 7, 0, 0, 9);
        x.answer(2, 7, 0, 1, 9);
        due("once different", x.copied(2), 1);
        due("the other still", x.copied(1), 0);
        x.answer(1, 7, 0, 1, 1);
        due("hasty and different", x.copied(1), 0);
        x.leave(1);
        due("of one that has left", x.copied(2), NONE);
        due("has left", x.copied(1), NONE);
        due("no judge", x.copied(4), NONE);
        due("judge -1", x.copied(-1), NONE);
        refusalsDue(x, 0, 0, 0, 0, 0, 0, 0);
        // Cases of more than one question are all CASES.
        x = Rooms.made(2, 3, 2);
        x.question(2, 0, 0);
        for (int j = 0; j < 2; j++) {
            for (int t = 0; t < 3; t++) {
                x.answer(j, t, 0, 0, 9);
                x.answer(j, t, 1, 1, 9);
            }
        }
        due("over two questions", x.copied(1), 0);
    }

    private static void next() {
        check.about("promise 29");
        ManyEyes x = learned();
        due("all alike: the least that hasn't ended", x.next(1), 30);
        // For judge 0: 1/42 at thing 3, answered; at thing 4 alone.
        due("not the answered one", x.next(0), 40);
        x.answer(0, 4, 0, 0, 0);
        due("not the one answered in haste", x.next(0), NONE);
        x.know(3, 0, 0);
        due("not the one that has ended", x.next(1), 40);
        x.know(4, 0, 0);
        due("all have ended", x.next(1), NONE);
        due("no judge", x.next(2), -1);
        due("judge -1", x.next(-1), -1);
        x.leave(1);
        due("one that has left", x.next(1), -1);
        refusalsDue(x, 3, 0, 0, 0, 0, 0, 0);
        // The greatest GAIN: a judge who was right, at the thing of which nothing is said.
        x = Rooms.made(2, 6, 2);
        x.know(0, 0, 0);
        x.know(1, 0, 1);
        Rooms.give(x, 0, 0, 1, 0);
        x.answer(1, 0, 0, 0, 9);
        x.answer(1, 1, 0, 1, 9);
        x.reckon(true);
        due("gain at 2", x.gain(1, 2, 0), 0);
        due("gain at 3", x.gain(1, 3, 0), 166666);
        due("the greater gain", x.next(1), 30);
        // Questions: a child is asked when its parent has ended; of like GAINS the least THING first.
        x.question(2, 0, 1);
        x.question(2, 0, 1);
        due("the greater gain still", x.next(1), 30);
        x.leave(0);
        due("then thing 2", x.next(1), 20);
        for (int t = 2; t < 6; t++) {
            x.answer(1, t, 0, 0, 0);
        }
        due("the child of thing 1", x.next(1), 11);
        x.know(1, 1, 0);
        due("its other child", x.next(1), 12);
        x.answer(1, 1, 2, 0, 1);
        due("none", x.next(1), NONE);
        nextOfTwoChildren();
    }

    /** Two judges who are good at questions 1 and 2; one has answered question 1 of thing 1. */
    private static void nextOfTwoChildren() {
        ManyEyes x = Rooms.made(2, 4, 2);
        x.question(2, 0, 0);
        x.question(2, 0, 0);
        for (int t = 1; t < 4; t++) {
            x.know(t, 0, 0);
        }
        for (int q = 1; q < 3; q++) {
            for (int t = 2; t < 4; t++) {
                x.know(t, q, t - 2);
                x.answer(0, t, q, t - 2, 9);
                x.answer(1, t, q, t - 2, 9);
            }
        }
        x.reckon(true);
        due("gain at question 0", x.gain(1, 0, 0), 0);
        due("gain at question 1", x.gain(1, 1, 1), 166666);
        due("gain at question 2", x.gain(1, 1, 2), 166666);
        due("of like ones the least question", x.next(1), 11);
        x.answer(0, 1, 1, 0, 9);
        due("gain at question 1 then", x.gain(1, 1, 1), 0);
        due("the greater one of a thing", x.next(1), 12);
        x.answer(1, 1, 2, 0, 9);
        due("of like ones the least thing", x.next(1), 0);
    }

    private static void gain() {
        check.about("promise 30");
        ManyEyes x = learned();
        // EXPECTED: 4/7 * 2/3 for a 0, 3/7 * 2/4 for a 1; that less 4/7 is 1/42.
        due("1/42", x.gain(0, 3, 0), 23809);
        // 1/2 * 2/3 and 1/2 * 2/4, less 1/2: 1/12.
        due("1/12", x.gain(0, 4, 0), 83333);
        due("a judge like all", x.gain(1, 3, 0), 0);
        due("known", x.gain(0, 0, 0), 0);
        due("no judge", x.gain(2, 3, 0), NONE);
        due("judge -1", x.gain(-1, 3, 0), NONE);
        due("no thing", x.gain(0, 5, 0), NONE);
        due("thing -1", x.gain(0, -1, 0), NONE);
        due("no question", x.gain(0, 0, 1), NONE);
        due("question -1", x.gain(0, 0, -1), NONE);
        x.leave(0);
        due("one that has left", x.gain(0, 3, 0), NONE);
        refusalsDue(x, 0, 0, 0, 0, 0, 0, 0);
        // An exact one: 8 and 8 of 8 right is 9/10; less 1/2.
        x = Rooms.made(2, 17, 1);
        for (int t = 0; t < 16; t++) {
            x.know(t, 0, t / 8);
            x.answer(0, t, 0, t / 8, 9);
        }
        x.reckon(true);
        due("2/5", x.gain(0, 16, 0), 400000);
    }

    private static void total() {
        check.about("promise 31");
        ManyEyes x = learned();
        // 1 + 1 + 0 + 3/7 + 1/2, and 0 + 0 + 1 + 4/7 + 1/2.
        due("of 0", x.total(0, 0), 2928);
        due("of 1", x.total(0, 1), 2071);
        x.question(3, 0, 0);
        due("children of two", x.total(1, 2), 666);
        due("of 0 with children open", x.total(0, 0), 2928);
        x.question(2, 1, 0);
        due("none is open", x.total(2, 0), 0);
        due("b 3", x.total(1, 3), NONE);
        due("b -1", x.total(0, -1), NONE);
        due("no question", x.total(3, 0), NONE);
        due("question -1", x.total(-1, 0), NONE);
        refusalsDue(x, 0, 0, 0, 0, 0, 0, 0);
        x = Rooms.made(3, 3, 1);
        due("three thirds", x.total(0, 0), 1000);
        x.things(37);
        due("forty thirds", x.total(0, 2), 13333);
        for (int t = 0; t < 40; t++) {
            x.know(t, 0, 1);
        }
        due("forty", x.total(0, 1), 40000);
        due("none", x.total(0, 0), 0);
        due("without things", Rooms.made(2, 0, 0).total(0, 0), 0);
    }

    private static void status() {
        check.about("promise 32");
        ManyEyes x = Rooms.made(2, 8, 3);
        x.question(2, 0, 0);
        Rooms.give(x, 0, 0, 0, 0, 0, 0, 0);
        Rooms.give(x, 1, 0, 0, 0, 0, 0, 0);
        x.answer(2, 6, 0, 0, 0);
        x.answer(2, 5, 0, 0, 9);
        x.know(7, 0, 0);
        x.know(7, 1, 0);
        x.know(0, 1, 1);
        x.reckon(false);
        int[] want = {8, 2, 3, 0, 3, 6, 2, 14, 7, 950, 12};
        for (int what = 0; what < want.length; what++) {
            due("status(" + what + ")", x.status(what), want[what]);
        }
        // Known and agreed both, when a case becomes known later on.
        x.know(0, 0, 0);
        due("known", x.status(4), 4);
        due("agreed", x.status(5), 6);
        due("open and ended", x.status(6), 4);
        x.leave(0);
        due("have left", x.status(3), 1);
        due("answers", x.status(7), 8);
        due("that count", x.status(8), 7);
        x.row(-1, 0, 0);
        x.show(0, 0);
        x.set(0, 0, 0);
        x.set(1, 0, 0);
        x.things(-1);
        x.row(1, 0, 0);
        x.set(1, 0, 0);
        x.bar(3, 3);
        x.things(40);
        refusalsDue(x, 1, 1, 1, 1, 1, 1, 1);
        x.bar(2, 4);
        due("HASTE", x.status(18), 4);
        due("what -1", x.status(-1), NONE);
        due("what 19", x.status(19), NONE);
        due("the least what", x.status(Integer.MIN_VALUE), NONE);
        due("the greatest what", x.status(Integer.MAX_VALUE), NONE);
        refusalsDue(x, 1, 1, 1, 1, 1, 1, 1);
    }
}
