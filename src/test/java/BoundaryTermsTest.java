import java.io.IOException;

/** Each sentence of the terms that names a boundary case has a test of its own. */
public final class BoundaryTermsTest {
    private static final int NONE = ManyEyes.NONE;
    private static final int OPEN = 0;
    private static final int ENDED = 1;
    private static final int KNOWN = 2;
    private static final int MARK = 0;
    private static final int LOOKS = 1;
    private static final int HASTE = 2;

    private final Sentences say = new Sentences();

    private BoundaryTermsTest() throws IOException {
    }

    public static void main(String[] args) throws IOException {
        BoundaryTermsTest test = new BoundaryTermsTest();
        test.whatIsAsked();
        test.fullRoom();
        test.shelvesAndRows();
        test.kindsOfAnswers();
        test.copied();
        test.countsOrNot();
        test.left();
        test.tables();
        test.odds();
        test.exactOdds();
        test.steps();
        test.knownAlone();
        test.ended();
        test.open();
        test.gain();
        test.next();
        test.say.close();
    }

    private void due(String call, long got, long want) {
        say.due(call, got, want);
    }

    private void due(String call, boolean got, boolean want) {
        say.due(call, got, want);
    }

    // 1. What is asked

    private void whatIsAsked() {
        say.says("Terms 1", "THINGS 0, 1, ..: 40 at most", () -> {
            ManyEyes x = Rooms.made(2, 40, 1);
            due("the last", x.answer(0, 39, 0, 1, 9), 0);
            due("none behind it", x.answer(0, 40, 0, 1, 9), -1);
            due("no more", x.things(1), -7);
            due("it has what was said", x.looks(39, 0), 1);
            due("the first hasn't", x.looks(0, 0), 0);
        });
        say.says("Terms 1", "QUESTIONS 0, 1, ..: 5 at most", () -> {
            ManyEyes x = Rooms.made(2, 2, 1);
            for (int q = 1; q < 5; q++) {
                due("question", x.question(2, 0, 0), q);
            }
            due("no more", x.question(2, 0, 0), -7);
            due("the last", x.answer(0, 0, 4, 1, 9), 0);
            due("none behind it", x.answer(0, 0, 5, 1, 9), -1);
            due("the next thing's first", x.looks(1, 0), 0);
        });
        say.says("Terms 1", "each has 2 to 4 ANSWERS (0, 1, ..)", () -> {
            for (int n = 2; n <= 4; n++) {
                ManyEyes x = Rooms.made(n, 3, 1);
                due("the first answer", x.answer(0, 0, 0, 0, 9), 0);
                due("the last answer", x.answer(0, 1, 0, n - 1, 9), 0);
                due("none behind it", x.answer(0, 2, 0, n, 9), -6);
                due("none ahead", x.answer(0, 2, 0, -1, 9), -6);
            }
            due("of one", new ManyEyes().question(1, NONE, 0), -6);
            due("of five", new ManyEyes().question(5, NONE, 0), -6);
        });
        say.says("Terms 1", "but for 0, a PARENT (an earlier QUESTION) with the ANSWER that is WANTED there",
            () -> {
                ManyEyes x = Rooms.made(2, 1, 1);
                due("NONE", x.question(2, NONE, 0), -1);
                due("itself", x.question(2, 1, 0), -1);
                due("a later one", x.question(2, 2, 0), -1);
                due("0", x.question(2, 0, 1), 1);
                due("the latest", x.question(2, 1, 1), 2);
                due("0 again", x.question(2, 0, 1), 3);
            });
        say.says("Terms 1", "JUDGES 0, 1, ..: 24 at most; they may LEAVE", () -> {
            ManyEyes x = Rooms.made(2, 1, 24);
            due("the last", x.answer(23, 0, 0, 1, 9), 0);
            due("none behind it", x.answer(24, 0, 0, 1, 9), -1);
            due("it leaves", x.leave(23), 1);
            due("no more", x.judge(), -7);
            for (int j = 0; j < 23; j++) {
                due("leave", x.leave(j), 0);
            }
            due("none is left", x.status(2) - x.status(3), 0);
            due("no more", x.judge(), -7);
        });
        say.says("Terms 1", "A CASE may be KNOWN: its TRUTH is told", () -> {
            ManyEyes x = Rooms.made(2, 2, 1);
            due("not at first", x.is(KNOWN, 0, 0), false);
            x.know(0, 0, 0);
            due("truth 0", x.is(KNOWN, 0, 0), true);
            due("another", x.is(KNOWN, 1, 0), false);
        });
    }

    /**
     * All things, questions, answers and judges there may be: of the last thing each question but the
     * last one is known, and of that all judges have said 3.
     */
    private static ManyEyes full() {
        ManyEyes x = Rooms.made(4, 40, 24);
        for (int q = 1; q < 5; q++) {
            x.question(4, q - 1, 3);
        }
        for (int q = 0; q < 4; q++) {
            x.know(39, q, 3);
        }
        for (int j = 0; j < 24; j++) {
            x.answer(j, 39, 4, 3, 9);
        }
        return x;
    }

    private void fullRoom() {
        say.says("Terms 1", "THINGS 0, 1, ..: 40 at most. QUESTIONS 0, 1, ..: 5 at most", () -> {
            ManyEyes x = full();
            int[] want = {40, 5, 24, 0, 4, 0, 5, 24, 24, 950, 12};
            for (int what = 0; what < want.length; what++) {
                due("status " + what, x.status(what), want[what]);
            }
            due("share", x.share(39, 4, 3), 250000);
            due("looks", x.looks(39, 4), 24);
            due("ended by looks", x.is(ENDED, 39, 4), true);
            due("open", x.is(OPEN, 39, 4), true);
            due("total", x.total(4, 3), 250);
            due("total of the first question", x.total(0, 3), 10750);
            due("next", x.next(23), 0);
            due("known alone", x.reckon(true), 0);
            due("steps", x.reckon(false), 2);
            due("changed", x.changed(0), 1);
            due("agreed on the least", x.agreed(39, 4), 0);
            due("top", x.top(23, 4, 3, 0), 2);
            due("bottom", x.bottom(23, 4, 0), 5);
            // 8/5 to 1, 24 times: 1.6^24 by 1.6^24 + 3.
            due("share of 0", x.share(39, 4, 0), 999962);
            due("share of 3", x.share(39, 4, 3), 12);
            due("total of 0", x.total(4, 0), 999);
            due("gain", x.gain(23, 39, 4), 0);
            due("how", x.how(23, 39, 4), 0);
            due("leave", x.leave(23), 1);
            due("looks then", x.looks(39, 4), 23);
        });
        say.says("Terms 1", "JUDGES 0, 1, ..: 24 at most", () -> {
            // The last of all is copied of the last but one.
            ManyEyes x = full();
            for (int j = 22; j < 24; j++) {
                Rooms.giveMany(x, j, 34, 5, 2, 9);
            }
            due("copied", x.copied(23), 22);
            due("how", x.how(23, 39, 4), 3);
            due("looks", x.looks(39, 4), 23);
            due("answers that count", x.status(8), 24 + 10 - 6);
        });
    }

    private void shelvesAndRows() {
        say.says("Terms 1", "SHELVES 0 to 7 hold NOTHING (at first), a ROW, or a JUDGE", () -> {
            ManyEyes x = Rooms.made(2, 1, 1);
            for (int s = 0; s < 8; s++) {
                due("nothing", x.holds(s), NONE);
                due("a row", x.row(s, s % 4, s), 1);
                due("a row", x.holds(s), 100 + s % 4);
            }
            due("no shelf 8", x.row(8, 0, 0), -1);
            due("no shelf -1", x.row(-1, 0, 0), -1);
            for (int s = 0; s < 8; s++) {
                due("its own sort", x.holds(s), 100 + s % 4);
                due("a judge", x.show(s, 0), 1);
                due("the judge alone", x.element(s, 0), 0);
                due("no row", x.set(s, 0, 1), -2);
                due("a row again", x.row(s, 0, 1), 1);
                due("no judge", x.countsIn(s), -2);
            }
        });
        say.says("Terms 1", "A ROW has a SORT (0 bytes, 1 shorts, 2 ints, 3 longs) and 0 to 100 elements, 0 at first",
            () -> {
                ManyEyes x = new ManyEyes();
                for (int sort = 0; sort < 4; sort++) {
                    due("of 100", x.row(sort, sort, 100), 1);
                    for (int i = 0; i < 100; i += 33) {
                        due("at first", x.element(sort, i), 0);
                        due("set", x.set(sort, i, 1 + i), 1);
                        due("then", x.element(sort, i), 1 + i);
                    }
                    due("anew", x.row(sort, sort, 100), 1);
                    due("at first", x.element(sort, 99) + x.element(sort, 0), 0);
                    due("of 0", x.row(sort, sort, 0), 1);
                    due("none", x.set(sort, 0, 1), -5);
                    due("of 101", x.row(sort, sort, 101), -7);
                    due("of -1", x.row(sort, sort, -1), -4);
                }
                due("no sort -1", x.row(0, -1, 1), -6);
                due("no sort 4", x.row(0, 4, 1), -6);
            });
        say.says("Terms 1", "what is put in keeps its lowest bits", () -> {
            kept(0, 127, 127, 128, -128, -128, -128, -129, 127, 255, -1, 256, 0);
            kept(1, 32767, 32767, 32768, -32768, -32768, -32768, -32769, 32767, 65535, -1, 65536, 0);
            long high = 1L << 31;
            kept(2, high - 1, high - 1, high, -high, -high, -high, -high - 1, high - 1,
                2 * high - 1, -1, 2 * high, 0);
            kept(3, Long.MAX_VALUE, Long.MAX_VALUE, Long.MIN_VALUE, Long.MIN_VALUE, -1, -1,
                2 * high, 2 * high, 256, 256, 0, 0);
            for (int sort = 0; sort < 3; sort++) {
                kept(sort, Long.MAX_VALUE, -1, Long.MIN_VALUE, 0);
            }
        });
    }

    /** Pairs of what is put into a row of the sort and what it is then. */
    private void kept(int sort, long... pairs) {
        ManyEyes x = new ManyEyes();
        x.row(0, sort, 3);
        for (int k = 0; k < pairs.length; k += 2) {
            due("set", x.set(0, 1, pairs[k]), 1);
            due(pairs[k] + " in sort " + sort, x.element(0, 1), pairs[k + 1]);
            due("its neighbours", x.element(0, 0) + x.element(0, 2), 0);
        }
    }

    // 2. Answers

    private void kindsOfAnswers() {
        say.says("Terms 2", "A JUDGE answers a CASE at most once", () -> {
            ManyEyes x = Rooms.made(2, 2, 2);
            x.question(2, 0, 0);
            due("once", x.answer(0, 0, 0, 0, 9), 0);
            due("twice", x.answer(0, 0, 0, 1, 9), -6);
            due("another question", x.answer(0, 0, 1, 0, 9), 0);
            due("another thing", x.answer(0, 1, 0, 0, 9), 0);
            due("another judge", x.answer(1, 0, 0, 1, 9), 0);
            due("looks", x.looks(0, 0), 2);
            due("given", x.leave(0), 3);
        });
        say.says("Terms 2", "It is HASTY if TICKS are below HASTE (3 at first) as it is given", () -> {
            ManyEyes x = Rooms.made(2, 9, 1);
            due("0", x.answer(0, 0, 0, 0, 0), 1);
            due("2", x.answer(0, 1, 0, 0, 2), 1);
            due("3", x.answer(0, 2, 0, 0, 3), 0);
            x.bar(HASTE, 0);
            due("0, HASTE 0", x.answer(0, 3, 0, 0, 0), 0);
            x.bar(HASTE, 1);
            due("0, HASTE 1", x.answer(0, 4, 0, 0, 0), 1);
            due("1, HASTE 1", x.answer(0, 5, 0, 0, 1), 0);
            x.bar(HASTE, 100);
            due("99, HASTE 100", x.answer(0, 6, 0, 0, 99), 1);
            due("100, HASTE 100", x.answer(0, 7, 0, 0, 100), 0);
        });
        String tired = "It is TIRED if it isn't HASTY and the JUDGE has given 20 or more since their last REST "
            + "(HASTY ones, too; what they give counts into it also then)";
        say.says("Terms 2", tired, () -> {
            ManyEyes x = Rooms.made(2, 40, 2);
            Rooms.giveMany(x, 0, 0, 19, 0, 9);
            due("the 20th", x.answer(0, 19, 0, 0, 9), 0);
            due("the 21st", x.answer(0, 20, 0, 0, 9), 2);
            due("the 22nd", x.answer(0, 21, 0, 0, 9), 2);
            due("hasty, not tired", x.answer(0, 22, 0, 0, 2), 1);
            due("another judge", x.answer(1, 20, 0, 0, 9), 0);
        });
        say.says("Terms 2", "HASTY ones, too", () -> {
            ManyEyes x = Rooms.made(2, 40, 2);
            Rooms.giveMany(x, 0, 0, 20, 0, 0);
            due("after 20 hasty ones", x.answer(0, 20, 0, 0, 9), 2);
            Rooms.giveMany(x, 1, 0, 19, 0, 0);
            due("after 19", x.answer(1, 19, 0, 0, 9), 0);
            due("after 20", x.answer(1, 20, 0, 0, 9), 2);
        });
        say.says("Terms 2", "since their last REST", () -> {
            ManyEyes x = Rooms.made(2, 40, 1);
            x.question(2, 0, 0);
            Rooms.giveMany(x, 0, 0, 19, 0, 9);
            due("a rest", x.rest(0), 1);
            Rooms.giveMany(x, 0, 19, 19, 0, 9);
            due("the 20th", x.answer(0, 38, 0, 0, 9), 0);
            due("the 21st", x.answer(0, 39, 0, 0, 9), 2);
            due("a rest", x.rest(0), 1);
            due("then", x.answer(0, 0, 1, 0, 9), 0);
        });
        say.says("Terms 2", "has given 20 or more", () -> {
            // What is refused isn't given.
            ManyEyes x = Rooms.made(2, 40, 1);
            Rooms.giveMany(x, 0, 0, 19, 0, 9);
            due("refused", x.answer(0, 0, 0, 0, 9), -6);
            due("refused", x.answer(0, 19, 0, 2, 9), -6);
            due("refused", x.answer(0, 40, 0, 0, 9), -1);
            due("the 20th", x.answer(0, 19, 0, 0, 9), 0);
            due("the 21st", x.answer(0, 20, 0, 0, 9), 2);
        });
        say.says("Terms 2", "(HASTY, TIRED, FAIR it stays.)", () -> {
            ManyEyes x = Rooms.made(2, 40, 1);
            Rooms.giveMany(x, 0, 0, 19, 0, 9);
            x.answer(0, 19, 0, 0, 2);
            x.answer(0, 20, 0, 0, 9);
            x.bar(HASTE, 100);
            due("fair with a greater HASTE", x.how(0, 0, 0), 0);
            x.bar(HASTE, 0);
            due("hasty with a lesser HASTE", x.how(0, 19, 0), 1);
            x.rest(0);
            due("tired after a rest", x.how(0, 20, 0), 2);
            due("looks", x.looks(20, 0), 0);
        });
    }

    /** Three judges; 0 and 1 have so many like FAIR answers, to the things from 0 on. */
    private static ManyEyes alike(int n) {
        ManyEyes x = Rooms.made(2, 40, 3);
        for (int t = 0; t < n; t++) {
            x.answer(0, t, 0, t % 2, 9);
            x.answer(1, t, 0, t % 2, 9);
        }
        return x;
    }

    private void copied() {
        say.says("Terms 2", "there are 6 CASES or more of which both have a FAIR answer", () -> {
            due("none", alike(0).copied(1), NONE);
            due("5", alike(5).copied(1), NONE);
            due("6", alike(6).copied(1), 0);
            due("7", alike(7).copied(1), 0);
        });
        say.says("Terms 2", "if x is below y", () -> {
            due("the first", alike(6).copied(0), NONE);
            // The one below may well be the later one to answer.
            ManyEyes x = Rooms.made(2, 6, 2);
            Rooms.giveMany(x, 1, 0, 6, 0, 9);
            Rooms.giveMany(x, 0, 0, 6, 0, 9);
            due("the first", x.copied(0), NONE);
            due("the second", x.copied(1), 0);
        });
        say.says("Terms 2", "of which both have a FAIR answer", () -> {
            ManyEyes x = alike(5);
            x.answer(0, 5, 0, 0, 2);
            x.answer(1, 5, 0, 0, 9);
            due("hasty of x", x.copied(1), NONE);
            x.answer(0, 6, 0, 0, 9);
            x.answer(1, 6, 0, 0, 2);
            due("hasty of y", x.copied(1), NONE);
            x.answer(0, 7, 0, 0, 9);
            x.answer(1, 8, 0, 0, 9);
            due("of one alone", x.copied(1), NONE);
            x.answer(1, 7, 0, 0, 9);
            due("6", x.copied(1), 0);
        });
        say.says("Terms 2", "of which both have a FAIR answer", () -> {
            // A tired answer of either is no FAIR one, like or not.
            ManyEyes x = alike(5);
            Rooms.giveMany(x, 0, 10, 15, 0, 9);
            due("tired of x", x.answer(0, 30, 0, 0, 9), 2);
            x.answer(1, 30, 0, 0, 9);
            due("not copied", x.copied(1), NONE);
            Rooms.giveMany(x, 1, 31, 9, 0, 9);
            x.rest(0);
            Rooms.giveMany(x, 1, 25, 5, 0, 9);
            due("tired of y", x.answer(1, 10, 0, 0, 9), 2);
            due("not copied", x.copied(1), NONE);
            due("tired of y, and unlike", x.answer(1, 11, 0, 1, 9), 2);
            x.answer(0, 31, 0, 0, 9);
            due("6, all fair", x.copied(1), 0);
        });
        say.says("Terms 2", "and in each of these it is the same", () -> {
            ManyEyes x = alike(6);
            x.answer(0, 6, 0, 0, 9);
            x.answer(1, 6, 0, 1, 9);
            due("the 7th isn't", x.copied(1), NONE);
            x.answer(0, 7, 0, 0, 9);
            x.answer(1, 7, 0, 0, 9);
            due("nor any more", x.copied(1), NONE);
            x = Rooms.made(2, 9, 2);
            Rooms.give(x, 0, 1, 0, 0, 0, 0, 0, 0, 0);
            Rooms.give(x, 1, 0, 0, 0, 0, 0, 0, 0, 0);
            due("the first isn't, seven are", x.copied(1), NONE);
            x = alike(6);
            x.answer(0, 6, 0, 0, 2);
            x.answer(1, 6, 0, 1, 9);
            due("unlike a hasty one", x.copied(1), 0);
        });
        say.says("Terms 2", "in each of these it is the same", () -> {
            // Of four answers, not of two halves.
            ManyEyes x = Rooms.made(4, 8, 3);
            Rooms.give(x, 0, 0, 1, 2, 3, 0, 1, 2);
            Rooms.give(x, 1, 0, 1, 2, 3, 0, 1, 2);
            Rooms.give(x, 2, 2, 3, 0, 1, 2, 3, 0);
            due("the same", x.copied(1), 0);
            due("others", x.copied(2), NONE);
        });
        say.says("Terms 2", "of several such x of the least", () -> {
            ManyEyes x = Rooms.made(2, 20, 4);
            Rooms.giveMany(x, 1, 0, 6, 0, 9);
            Rooms.giveMany(x, 2, 0, 6, 0, 9);
            Rooms.giveMany(x, 3, 0, 6, 0, 9);
            due("of 1 and 2", x.copied(3), 1);
            Rooms.giveMany(x, 0, 0, 6, 0, 9);
            due("of 0, 1 and 2", x.copied(3), 0);
            due("the second", x.copied(1), 0);
            x.leave(0);
            due("of 1 and 2 again", x.copied(3), 1);
            x.leave(1);
            due("of 2 alone", x.copied(3), 2);
        });
        say.says("Terms 2", "neither has LEFT", () -> {
            ManyEyes x = alike(6);
            due("copied", x.copied(1), 0);
            x.leave(0);
            due("x has left", x.copied(1), NONE);
            x = alike(6);
            x.leave(1);
            due("y has left", x.copied(1), NONE);
        });
    }

    private void countsOrNot() {
        say.says("Terms 2", "A FAIR answer of y doesn't COUNT if the x of whom y is COPIED has a FAIR answer of that CASE",
            () -> {
                ManyEyes x = alike(6);
                due("one of the six", x.how(1, 0, 0), 3);
                due("looks", x.looks(0, 0), 1);
                x.answer(1, 6, 0, 0, 9);
                due("x has none", x.how(1, 6, 0), 0);
                x.answer(0, 6, 0, 0, 9);
                due("x has one now", x.how(1, 6, 0), 3);
                x.answer(0, 7, 0, 0, 2);
                x.answer(1, 7, 0, 0, 9);
                due("x has a hasty one", x.how(1, 7, 0), 0);
                Rooms.giveMany(x, 0, 8, 12, 0, 9);
                due("x is tired", x.answer(0, 30, 0, 0, 9), 2);
                x.answer(1, 30, 0, 0, 9);
                due("x has a tired one", x.how(1, 30, 0), 0);
                due("copied still", x.copied(1), 0);
            });
        say.says("Terms 2", "A FAIR answer of y doesn't COUNT", () -> {
            // All six are uncounted by the sixth, and counted again by one that differs.
            ManyEyes x = alike(5);
            x.show(0, 1);
            due("5 alike", x.countsIn(0), 5);
            x.answer(0, 5, 0, 0, 9);
            x.answer(1, 5, 0, 0, 9);
            due("6 alike", x.countsIn(0), 0);
            x.answer(0, 6, 0, 0, 9);
            x.answer(1, 6, 0, 1, 9);
            due("one that differs", x.countsIn(0), 7);
        });
        say.says("Terms 2", "the x of whom y is COPIED", () -> {
            // 1 is COPIED of 0, 2 of 1 alone: where 0 and 1 are FAIR, 2 doesn't COUNT, as 1 doesn't.
            ManyEyes x = Rooms.made(2, 14, 3);
            for (int t = 0; t < 7; t++) {
                x.answer(0, t, 0, 0, 9);
                x.answer(1, t, 0, 0, 9);
            }
            for (int t = 7; t < 12; t++) {
                x.answer(1, t, 0, 0, 9);
                x.answer(2, t, 0, 0, 9);
            }
            x.answer(2, 6, 0, 0, 9);
            x.answer(0, 12, 0, 1, 9);
            x.answer(2, 12, 0, 0, 9);
            due("1 of 0", x.copied(1), 0);
            due("2 of 1", x.copied(2), 1);
            due("0 counts", x.how(0, 6, 0), 0);
            due("1 doesn't", x.how(1, 6, 0), 3);
            due("2 doesn't", x.how(2, 6, 0), 3);
            due("looks", x.looks(6, 0), 1);
            due("without 0, 1 counts", x.how(1, 7, 0), 0);
            due("2 doesn't", x.how(2, 7, 0), 3);
            due("with 0 alone, 2 counts", x.how(2, 12, 0), 0);
        });
        say.says("Terms 2", "all other FAIR ones COUNT", () -> {
            ManyEyes x = Rooms.made(2, 2, 3);
            x.answer(0, 0, 0, 0, 9);
            x.answer(1, 0, 0, 0, 9);
            x.answer(2, 0, 0, 1, 9);
            due("looks", x.looks(0, 0), 3);
            x.know(0, 0, 1);
            due("of a known case, too", x.looks(0, 0), 3);
        });
    }

    private void left() {
        say.says("Terms 2", "of JUDGES that have LEFT none do", () -> {
            ManyEyes x = Rooms.learned(2, 5, 2);
            x.answer(0, 3, 0, 1, 9);
            due("looks", x.looks(3, 0), 1);
            due("share", x.share(3, 0, 1), 666666);
            x.leave(0);
            due("looks", x.looks(3, 0), 0);
            due("share", x.share(3, 0, 1), 500000);
            x.reckon(false);
            due("agreed", x.agreed(3, 0), NONE);
        });
        say.says("Terms 2", "none are seen any more (as if they had never been given)", () -> {
            ManyEyes x = alike(6);
            x.answer(0, 6, 0, 0, 0);
            due("given", x.leave(0), 7);
            due("how", x.how(0, 0, 0), NONE);
            due("how hasty", x.how(0, 6, 0), NONE);
            due("answers", x.status(7), 6);
            due("that count", x.status(8), 6);
            due("of the one who was copied", x.how(1, 0, 0), 0);
            x.show(0, 0);
            due("on a shelf", x.countsIn(0), 0);
        });
    }

    // 3. Tables and odds

    private void tables() {
        say.says("Terms 3", "at first TOP is 1 and BOTTOM how many ANSWERS the QUESTION has", () -> {
            for (int n = 2; n <= 4; n++) {
                ManyEyes x = Rooms.made(n, 1, 24);
                due("top", x.top(23, 0, n - 1, n - 1), 1);
                due("top", x.top(0, 0, 0, n - 1), 1);
                due("bottom", x.bottom(23, 0, n - 1), n);
                due("bottom", x.bottom(0, 0, 0), n);
            }
        });
        String made = "TOP(a, b) is 1 more than how many answers a of the JUDGE COUNT in such CASES with TRUTH b, "
            + "BOTTOM(b) how many ANSWERS there are and how many of all their answers COUNT in such CASES with TRUTH b";
        say.says("Terms 3", made, () -> {
            ManyEyes x = Rooms.made(3, 40, 2);
            int[] truths = {0, 0, 0, 2, 2, 1};
            int[] said = {0, 0, 1, 2, 0, 1};
            for (int t = 0; t < 6; t++) {
                x.know(t, 0, truths[t]);
                x.answer(0, t, 0, said[t], 9);
            }
            x.reckon(true);
            int[][] tops = {{3, 1, 2}, {2, 2, 1}, {1, 1, 2}};
            int[] bottoms = {6, 4, 5};
            for (int b = 0; b < 3; b++) {
                due("bottom " + b, x.bottom(0, 0, b), bottoms[b]);
                for (int a = 0; a < 3; a++) {
                    due("top " + a + " " + b, x.top(0, 0, a, b), tops[a][b]);
                }
            }
            due("of another judge", x.bottom(1, 0, 0), 3);
        });
        say.says("Terms 3", "how many answers a of the JUDGE COUNT in such CASES", () -> {
            // Hasty, tired and copied ones are in no table.
            ManyEyes x = alike(6);
            for (int t = 0; t < 40; t++) {
                x.know(t, 0, 0);
            }
            x.answer(2, 0, 0, 0, 2);
            Rooms.giveMany(x, 2, 10, 19, 1, 9);
            x.answer(2, 30, 0, 0, 9);
            x.reckon(true);
            due("the original", x.bottom(0, 0, 0), 2 + 6);
            due("the copy", x.bottom(1, 0, 0), 2);
            due("19 fair, one hasty, one tired", x.bottom(2, 0, 0), 2 + 19);
            due("the hasty and the tired one", x.top(2, 0, 0, 0), 1);
        });
        say.says("Terms 3", "how many answers a of the JUDGE COUNT", () -> {
            // As many as there may be: 40 of one judge.
            ManyEyes x = Rooms.learned(40, 40, 1);
            due("top", x.top(0, 0, 1, 1), 21);
            due("bottom", x.bottom(0, 0, 0), 22);
        });
        say.says("Terms 3", "The TABLES stay as they are until the next RECKONING", () -> {
            ManyEyes x = Rooms.learned(2, 5, 2);
            x.know(3, 0, 1);
            x.answer(0, 3, 0, 1, 9);
            due("more is known and said", x.top(0, 0, 1, 1), 2);
            x.know(1, 0, NONE);
            due("less is known", x.top(0, 0, 1, 1), 2);
            x.know(0, 0, 1);
            due("another truth", x.top(0, 0, 0, 0), 2);
            x.leave(1);
            due("another has left", x.top(0, 0, 0, 0), 2);
            x.reckon(true);
            due("the next reckoning", x.top(0, 0, 0, 0), 1);
            due("the next reckoning", x.top(0, 0, 0, 1), 2);
        });
        say.says("Terms 3", "The TABLES stay as they are until the next RECKONING", () -> {
            // Also when the answers in them don't count any more, or again.
            ManyEyes x = alike(5);
            for (int t = 0; t < 5; t++) {
                x.know(t, 0, 0);
            }
            x.reckon(true);
            due("5 alike", x.bottom(1, 0, 0), 7);
            x.answer(0, 5, 0, 0, 9);
            x.answer(1, 5, 0, 0, 9);
            due("6 alike", x.bottom(1, 0, 0), 7);
            x.reckon(true);
            due("then", x.bottom(1, 0, 0), 2);
            x.leave(0);
            due("not copied any more", x.bottom(1, 0, 0), 2);
            x.reckon(true);
            due("then", x.bottom(1, 0, 0), 7);
        });
        say.says("Terms 3", "those of a JUDGE that is new are as at first", () -> {
            ManyEyes x = Rooms.learned(4, 5, 2);
            int judge = x.judge();
            due("top", x.top(judge, 0, 1, 1), 1);
            due("bottom", x.bottom(judge, 0, 1), 2);
            x.answer(judge, 0, 0, 0, 9);
            due("top, with an answer of a known case", x.top(judge, 0, 0, 0), 1);
            x.question(4, 0, 0);
            due("of a new question", x.bottom(0, 1, 3), 4);
        });
    }

    private void odds() {
        say.says("Terms 3", "1 without any", () -> {
            due("of two", Rooms.made(2, 1, 1).share(0, 0, 0), 500000);
            due("of three", Rooms.made(3, 1, 1).share(0, 0, 2), 333333);
            due("of four", Rooms.made(4, 1, 1).share(0, 0, 3), 250000);
            ManyEyes x = Rooms.learned(4, 6, 1);
            x.answer(0, 5, 0, 1, 0);
            due("with a hasty one alone", x.share(5, 0, 1), 500000);
        });
        say.says("Terms 3", "the product, over all answers that COUNT there, of TOP(a, b) by BOTTOM(b)", () -> {
            // Right in three of three: 4/5 to 1/5 a judge; two of them against one.
            ManyEyes x = Rooms.made(2, 20, 3);
            for (int t = 0; t < 18; t++) {
                x.know(t, 0, t % 2);
                x.answer(t / 6, t, 0, t % 2, 9);
            }
            x.reckon(true);
            x.answer(0, 18, 0, 1, 9);
            due("one", x.share(18, 0, 1), 800000);
            x.answer(1, 18, 0, 1, 9);
            due("two: 16 to 1", x.share(18, 0, 1), 941176);
            due("two: 1 to 16", x.share(18, 0, 0), 58823);
            x.answer(2, 18, 0, 0, 9);
            due("two against one: 4 to 1", x.share(18, 0, 1), 800000);
        });
        say.says("Terms 3", "of a KNOWN one 1 for its TRUTH, 0 for others", () -> {
            ManyEyes x = Rooms.learned(4, 6, 1);
            x.know(4, 0, 0);
            x.answer(0, 4, 0, 1, 9);
            due("truth", x.share(4, 0, 0), 1000000);
            due("other", x.share(4, 0, 1), 0);
            due("leading", x.leading(4, 0), 0);
            x.know(4, 0, NONE);
            due("not known any more", x.share(4, 0, 1), 750000);
        });
        say.says("Terms 3", "LEADING: the b of greatest SHARE, of like ones the least", () -> {
            due("all alike", Rooms.made(4, 1, 1).leading(0, 0), 0);
            ManyEyes x = Rooms.made(4, 6, 1);
            x.know(0, 0, 1);
            x.know(1, 0, 3);
            Rooms.give(x, 0, 2, 2);
            x.reckon(true);
            x.answer(0, 3, 0, 2, 9);
            due("1 and 3 are alike", x.share(3, 0, 1) - x.share(3, 0, 3), 0);
            due("the least of two", x.leading(3, 0), 1);
            x.know(2, 0, 3);
            x.answer(0, 2, 0, 2, 9);
            x.reckon(true);
            due("the greatest is the last", x.leading(3, 0), 3);
        });
    }

    private void exactOdds() {
        say.says(Doc.TOP, "odds of what a thing is are exact products of the tables", () -> {
            // 2/3 * 5/7 * 3/4 to 3/4 * 2/3 * 5/7: the latter is greater if each product is rounded.
            ManyEyes x = Rooms.made(2, 17, 3);
            int[] saidOfZero = {0, 0, 0, 0, 0, 1, 0, 0};
            int[] saidOfOne = {0, 0, 0, 0, 0, 0, 0, 1};
            int[] judgesOfZero = {0, 1, 1, 1, 1, 1, 2, 2};
            int[] judgesOfOne = {0, 0, 1, 2, 2, 2, 2, 2};
            for (int k = 0; k < 8; k++) {
                x.know(k, 0, 0);
                x.answer(judgesOfZero[k], k, 0, saidOfZero[k], 9);
                x.know(8 + k, 0, 1);
                x.answer(judgesOfOne[k], 8 + k, 0, saidOfOne[k], 9);
            }
            x.reckon(true);
            for (int j = 0; j < 3; j++) {
                x.answer(j, 16, 0, 0, 9);
            }
            due("top", 10 * x.top(1, 0, 0, 0) + x.bottom(1, 0, 0), 57);
            due("half", x.share(16, 0, 0), 500000);
            due("the other half", x.share(16, 0, 1), 500000);
            due("the least leads", x.leading(16, 0), 0);
            x.bar(MARK, 500);
            due("half is 500", x.is(ENDED, 16, 0), true);
            x.bar(MARK, 501);
            due("half isn't 501", x.is(ENDED, 16, 0), false);
        });
        say.says(Doc.TOP, "odds of what a thing is are exact products of the tables", () -> {
            // Judges who were right in one and one; 11 against 11, then 12.
            ManyEyes x = Rooms.made(2, 4, 24);
            for (int j = 0; j < 24; j++) {
                x.know(0, 0, 0);
                x.know(1, 0, 1);
                Rooms.give(x, j, 0, 1);
            }
            x.reckon(true);
            for (int j = 0; j < 22; j++) {
                x.answer(j, 2, 0, j % 2, 9);
                x.answer(j, 3, 0, 1, 9);
            }
            due("a half", x.share(2, 0, 1), 500000);
            due("gain of one more", x.gain(23, 2, 0), 166666);
            due("leading", x.leading(2, 0), 0);
            x.answer(22, 2, 0, 1, 9);
            due("two thirds", x.share(2, 0, 1), 666666);
            due("leading", x.leading(2, 0), 1);
            due("gain then", x.gain(23, 2, 0), 0);
            // 2^22 to 1.
            due("nearly all", x.share(3, 0, 1), 999999);
            due("hardly anything", x.share(3, 0, 0), 0);
        });
    }

    private void steps() {
        say.says("Terms 3", "RECKONING with all: nothing is AGREED; TABLES from the KNOWN CASES", () -> {
            ManyEyes x = Rooms.made(2, 7, 1);
            Rooms.give(x, 0, 0, 1, 0, 1, 0, 1, 0);
            due("steps", x.reckon(false), 3);
            due("from the beginning again", x.reckon(false), 3);
            due("all", x.changed(0), 7);
            due("three", x.changed(1), 3);
        });
        say.says("Terms 3", "each CASE that isn't KNOWN, with an answer that COUNTS, becomes AGREED", () -> {
            ManyEyes x = Rooms.made(2, 40, 2);
            x.know(0, 0, 1);
            x.answer(0, 0, 0, 1, 9);
            x.answer(0, 1, 0, 1, 0);
            x.answer(0, 2, 0, 1, 9);
            x.reckon(false);
            due("known", x.agreed(0, 0), NONE);
            due("a hasty one alone", x.agreed(1, 0), NONE);
            due("one that counts", x.agreed(2, 0), 1);
            due("no answer", x.agreed(3, 0), NONE);
            due("one", x.changed(0), 1);
            Rooms.giveMany(x, 0, 3, 17, 1, 9);
            due("tired", x.answer(0, 30, 0, 1, 9), 2);
            x.reckon(false);
            due("a tired one alone", x.agreed(30, 0), NONE);
            due("the last fair one", x.agreed(19, 0), 1);
        });
        say.says("Terms 3", "becomes AGREED on LEADING if it isn't AGREED", () -> {
            // Also where LEADING is but the least of like ones.
            ManyEyes x = Rooms.made(3, 1, 1);
            x.answer(0, 0, 0, 2, 9);
            x.reckon(false);
            due("the least", x.agreed(0, 0), 0);
        });
        say.says("Terms 3", "if the SHARE of LEADING is greater than that of what it is AGREED on", () -> {
            // Thing 1: 2/9 to 1/4 at first, then 1/3 * 3/4 to 1/2 * 1/2, which is no greater.
            ManyEyes x = Rooms.made(2, 4, 2);
            x.know(2, 0, 0);
            Rooms.give(x, 0, NONE, 0, 1, 1);
            Rooms.give(x, 1, 0, 0, 0, 1);
            due("steps", x.reckon(false), 2);
            due("step 0", x.changed(0), 3);
            due("step 1", x.changed(1), 0);
            due("alike", x.share(1, 0, 0), 500000);
            due("leading", x.leading(1, 0), 0);
            due("agreed still", x.agreed(1, 0), 1);
        });
        say.says("Terms 3", "(all by the TABLES as they are)", () -> {
            // Were the tables mended between two things, thing 1 would be AGREED on 1 at once.
            ManyEyes x = Rooms.made(2, 2, 1);
            Rooms.give(x, 0, 0, 1);
            due("steps", x.reckon(false), 2);
            due("all in step 0", x.changed(0), 2);
            due("none in step 1", x.changed(1), 0);
            due("agreed on 0", x.agreed(1, 0), 0);
        });
        say.says("Terms 3", "then TABLES from KNOWN and AGREED CASES", () -> {
            ManyEyes x = Rooms.made(2, 4, 1);
            x.know(0, 0, 1);
            Rooms.give(x, 0, 1, 1, 1);
            x.reckon(false);
            due("top", x.top(0, 0, 1, 1), 4);
            due("bottom", x.bottom(0, 0, 1), 5);
            due("of the other", x.bottom(0, 0, 0), 2);
        });
        say.says("Terms 3", "When a STEP changes nothing it is the last one; 30 at most", () -> {
            due("at once", Rooms.made(2, 2, 1).reckon(false), 1);
            ManyEyes x = Rooms.made(2, 2, 1);
            x.answer(0, 0, 0, 0, 9);
            due("one that changes, one that doesn't", x.reckon(false), 2);
            due("changes", x.changed(0), 1);
            due("doesn't", x.changed(1), 0);
        });
        say.says("Terms 3", "30 at most", () -> {
            ManyEyes x = Rooms.made(4, 40, PromiseTest.RESTLESS.length);
            for (int j = 0; j < PromiseTest.RESTLESS.length; j++) {
                x.row(0, 0, 100);
                for (int t = 0; t < 40; t++) {
                    x.rest(j);
                    x.answer(j, t, 0, PromiseTest.RESTLESS[j].charAt(t) - '0', 9);
                }
            }
            due("steps", x.reckon(false), 30);
            due("the last one changes something", x.changed(29) > 0, true);
            due("no step behind it", x.changed(30), NONE);
        });
    }

    private void knownAlone() {
        say.says("Terms 3", "RECKONING with the KNOWN alone: nothing is AGREED, TABLES from KNOWN CASES, no STEP",
            () -> {
                ManyEyes x = Rooms.learned(2, 5, 1);
                x.answer(0, 2, 0, 1, 9);
                x.reckon(false);
                due("agreed", x.agreed(2, 0), 1);
                due("top", x.top(0, 0, 1, 1), 3);
                due("no step", x.reckon(true), 0);
                due("no step", x.changed(0), NONE);
                due("nothing agreed", x.agreed(2, 0), NONE);
                due("nothing agreed", x.status(5), 0);
                due("from the known alone", x.top(0, 0, 1, 1), 2);
            });
        say.says("Terms 3", "TABLES from KNOWN CASES", () -> {
            // What was AGREED and became KNOWN otherwise counts as KNOWN.
            ManyEyes x = Rooms.made(2, 2, 1);
            x.answer(0, 0, 0, 1, 9);
            x.reckon(false);
            due("agreed on 0", x.agreed(0, 0), 0);
            x.know(0, 0, 1);
            x.reckon(true);
            due("said 1 when it was 1", x.top(0, 0, 1, 1), 2);
            due("not of 0", x.bottom(0, 0, 0), 2);
        });
    }

    // 4. Ends, and what is next

    private void ended() {
        say.says("Terms 4", "A CASE has ENDED if it is KNOWN", () -> {
            ManyEyes x = Rooms.made(2, 2, 1);
            x.know(0, 0, 1);
            due("without an answer", x.is(ENDED, 0, 0), true);
            x.know(0, 0, NONE);
            due("not any more", x.is(ENDED, 0, 0), false);
        });
        say.says("Terms 4", "or answers COUNT in it and", () -> {
            ManyEyes x = Rooms.made(2, 2, 1);
            x.bar(MARK, 1);
            x.bar(LOOKS, 1);
            due("no answer", x.is(ENDED, 0, 0), false);
            x.answer(0, 0, 0, 1, 0);
            due("a hasty one", x.is(ENDED, 0, 0), false);
            x.answer(0, 1, 0, 1, 9);
            due("one that counts", x.is(ENDED, 1, 0), true);
            x.leave(0);
            due("one has left", x.is(ENDED, 1, 0), false);
        });
        say.says("Terms 4", "the SHARE of LEADING, in thousandths, is MARK or more, 950 at first", () -> {
            // Right in 18 and 18: 19/20 is the MARK; in 17 and 17: 18/19 isn't.
            ManyEyes x = Rooms.learned(36, 38, 1);
            x.rest(0);
            x.answer(0, 36, 0, 1, 9);
            due("share", x.share(36, 0, 1), 950000);
            due("is 950", x.is(ENDED, 36, 0), true);
            x.bar(MARK, 951);
            due("isn't 951", x.is(ENDED, 36, 0), false);
            x.bar(MARK, 950);
            due("is 950", x.is(ENDED, 36, 0), true);
            x = Rooms.learned(34, 36, 1);
            x.rest(0);
            x.answer(0, 34, 0, 1, 9);
            due("share", x.share(34, 0, 1), 947368);
            due("isn't 950", x.is(ENDED, 34, 0), false);
            x.bar(MARK, 947);
            due("is 947", x.is(ENDED, 34, 0), true);
            x.bar(MARK, 948);
            due("isn't 948", x.is(ENDED, 34, 0), false);
        });
        say.says("Terms 4", "is MARK or more", () -> {
            ManyEyes x = Rooms.made(2, 2, 2);
            x.answer(0, 0, 0, 1, 9);
            x.bar(MARK, 500);
            due("a half is 500", x.is(ENDED, 0, 0), true);
            x.bar(MARK, 501);
            due("a half isn't 501", x.is(ENDED, 0, 0), false);
            x.bar(MARK, 1);
            due("is 1", x.is(ENDED, 0, 0), true);
            x.bar(MARK, 1000);
            due("isn't 1000", x.is(ENDED, 0, 0), false);
            x = Rooms.made(3, 2, 1);
            x.answer(0, 0, 0, 1, 9);
            x.bar(MARK, 333);
            due("a third is more than 333", x.is(ENDED, 0, 0), true);
            x.bar(MARK, 334);
            due("a third isn't 334", x.is(ENDED, 0, 0), false);
        });
        say.says("Terms 4", "LOOKS or more answers COUNT in it, 12 at first", () -> {
            ManyEyes x = Rooms.made(2, 2, 24);
            for (int j = 0; j < 11; j++) {
                x.answer(j, 0, 0, j % 2, 9);
            }
            due("11", x.is(ENDED, 0, 0), false);
            x.answer(23, 0, 0, 1, 2);
            due("11 and a hasty one", x.is(ENDED, 0, 0), false);
            x.answer(11, 0, 0, 1, 9);
            due("12", x.is(ENDED, 0, 0), true);
            x.answer(12, 0, 0, 1, 9);
            due("13", x.is(ENDED, 0, 0), true);
            x.bar(LOOKS, 14);
            due("13 of 14", x.is(ENDED, 0, 0), false);
            x.bar(LOOKS, 13);
            due("13 of 13", x.is(ENDED, 0, 0), true);
            x.leave(0);
            due("one has left", x.is(ENDED, 0, 0), false);
        });
        say.says("Terms 4", "LOOKS or more answers COUNT in it", () -> {
            ManyEyes x = Rooms.made(2, 1, 24);
            x.bar(LOOKS, 24);
            for (int j = 0; j < 23; j++) {
                x.answer(j, 0, 0, j % 2, 9);
            }
            due("23", x.is(ENDED, 0, 0), false);
            x.answer(23, 0, 0, 1, 9);
            due("24", x.is(ENDED, 0, 0), true);
        });
    }

    private void open() {
        say.says("Terms 4", "A CASE is OPEN if its QUESTION is 0", () -> {
            ManyEyes x = Rooms.made(2, 40, 1);
            due("the first thing", x.is(OPEN, 0, 0), true);
            due("the last thing", x.is(OPEN, 39, 0), true);
            x.know(39, 0, 1);
            due("when it has ended, too", x.is(OPEN, 39, 0), true);
        });
        say.says("Terms 4", "or the CASE of the THING with the PARENT is OPEN, has ENDED", () -> {
            ManyEyes x = Rooms.made(2, 2, 2);
            x.question(2, 0, 0);
            due("leading is wanted, but it hasn't ended", x.is(OPEN, 0, 1), false);
            x.answer(0, 0, 0, 0, 9);
            due("nor with an answer", x.is(OPEN, 0, 1), false);
            x.bar(LOOKS, 1);
            due("ended by LOOKS", x.is(OPEN, 0, 1), true);
            due("not of another thing", x.is(OPEN, 1, 1), false);
            x.bar(LOOKS, 2);
            x.bar(MARK, 500);
            due("ended by MARK", x.is(OPEN, 0, 1), true);
            x.bar(MARK, 501);
            due("not ended any more", x.is(OPEN, 0, 1), false);
        });
        say.says("Terms 4", "with the PARENT is OPEN", () -> {
            // Four generations; one that closes closes all behind it.
            ManyEyes x = Rooms.made(2, 1, 1);
            for (int q = 1; q < 5; q++) {
                x.question(2, q - 1, 1);
            }
            for (int q = 0; q < 4; q++) {
                due("question " + (q + 1), x.is(OPEN, 0, q + 1), false);
                x.know(0, q, 1);
                due("question " + (q + 1), x.is(OPEN, 0, q + 1), true);
            }
            x.know(0, 1, 0);
            due("its child", x.is(OPEN, 0, 2), false);
            due("the child's child", x.is(OPEN, 0, 3), false);
            due("the last", x.is(OPEN, 0, 4), false);
            due("itself", x.is(OPEN, 0, 1), true);
        });
        say.says("Terms 4", "its LEADING is the ANSWER that is WANTED", () -> {
            ManyEyes x = Rooms.made(4, 4, 1);
            for (int wanted = 0; wanted < 4; wanted++) {
                x.question(2, 0, wanted);
                x.know(wanted, 0, wanted);
            }
            for (int t = 0; t < 4; t++) {
                for (int q = 1; q < 5; q++) {
                    due("thing " + t + ", wanted " + (q - 1), x.is(OPEN, t, q), t == q - 1);
                }
            }
            // Not what is AGREED, but what leads.
            x = Rooms.learned(4, 6, 1);
            x.question(2, 0, 1);
            x.bar(LOOKS, 1);
            x.answer(0, 4, 0, 1, 9);
            due("leads, agreed or not", x.is(OPEN, 4, 1), true);
        });
    }

    private void gain() {
        say.says("Terms 4", "the sum of the greatest SHARE(b) times TOP(a, b) by BOTTOM(b); GAIN: that less the SHARE of LEADING",
            () -> {
                // Right in one and one of two: 1/2 * 2/3 and 1/2 * 2/3, less 1/2.
                ManyEyes x = Rooms.learned(2, 5, 2);
                due("a sixth", x.gain(0, 4, 0), 166666);
                due("of tables as at first", x.gain(1, 4, 0), 0);
                due("of a known case", x.gain(0, 0, 0), 0);
                // 2 to 1: 1/3 * 2/3 or 2/3 * 1/3 for a 0, 2/3 * 2/3 for a 1, less 2/3.
                x.answer(0, 3, 0, 1, 9);
                due("no gain in hearing it twice", x.gain(0, 3, 0), 0);
                x = Rooms.made(3, 4, 1);
                for (int t = 0; t < 3; t++) {
                    x.know(t, 0, t);
                    x.answer(0, t, 0, t, 9);
                }
                x.reckon(true);
                // 3 * 1/3 * 2/4, less 1/3.
                due("a sixth, of three", x.gain(0, 3, 0), 166666);
            });
    }

    private void next() {
        say.says("Terms 4", "of the CASES that are OPEN", () -> {
            ManyEyes x = Rooms.made(2, 2, 1);
            x.question(2, 0, 1);
            x.know(0, 0, 0);
            due("a closed child isn't", x.next(0), 10);
            x.know(1, 0, 0);
            due("no more", x.next(0), NONE);
            x.know(1, 0, 1);
            due("an open child is", x.next(0), 11);
        });
        say.says("Terms 4", "haven't ENDED", () -> {
            ManyEyes x = Rooms.made(2, 3, 2);
            x.know(0, 0, 0);
            due("the known one isn't", x.next(1), 10);
            x.answer(0, 1, 0, 0, 9);
            x.bar(LOOKS, 1);
            due("the one with looks isn't", x.next(1), 20);
            x.bar(LOOKS, 2);
            due("now it is", x.next(1), 10);
        });
        say.says("Terms 4", "that the JUDGE hasn't answered (in any way)", () -> {
            ManyEyes x = Rooms.made(2, 40, 2);
            x.answer(0, 0, 0, 0, 9);
            due("fair", x.next(0), 10);
            x.answer(0, 1, 0, 0, 2);
            due("hasty", x.next(0), 20);
            Rooms.giveMany(x, 0, 2, 18, 0, 9);
            due("tired", x.answer(0, 20, 0, 0, 9), 2);
            due("behind it", x.next(0), 210);
            due("of the other judge", x.next(1), 0);
        });
        say.says("Terms 4", "the one with the greatest GAIN", () -> {
            // Of nothing said a judge who is right tells most; of what another has said, less.
            ManyEyes x = Rooms.made(2, 12, 2);
            for (int t = 0; t < 8; t++) {
                x.know(t, 0, t % 2);
                x.answer(t / 4, t, 0, t % 2, 9);
            }
            x.reckon(true);
            x.answer(0, 8, 0, 1, 9);
            x.answer(0, 9, 0, 1, 9);
            due("gain of the first", x.gain(1, 8, 0), 0);
            due("gain of the third", x.gain(1, 10, 0), 250000);
            due("the third", x.next(1), 100);
        });
        say.says("Terms 4", "the one with the greatest GAIN", () -> {
            // Of one thing's questions: the judge is right in the second, the third is said already.
            ManyEyes x = Rooms.made(2, 4, 2);
            x.question(2, 0, 0);
            x.question(2, 0, 0);
            for (int t = 0; t < 3; t++) {
                x.know(t, 0, 0);
            }
            for (int t = 0; t < 2; t++) {
                for (int q = 1; q < 3; q++) {
                    x.know(t, q, t);
                    x.answer(0, t, q, t, 9);
                    x.answer(1, t, q, t, 9);
                }
            }
            x.reckon(true);
            x.answer(0, 2, 2, 0, 9);
            due("thing 3", x.gain(1, 3, 0), 0);
            due("the second", x.gain(1, 2, 1), 166666);
            due("the third", x.gain(1, 2, 2), 0);
            due("the second", x.next(1), 21);
            x.answer(1, 2, 1, 0, 2);
            due("of like ones the least", x.next(1), 22);
            due("total of the second", x.total(1, 0), 1500);
            due("total of the first", x.total(0, 0), 3500);
        });
        say.says("Terms 4", "of like ones the least THING, then the least QUESTION", () -> {
            ManyEyes x = Rooms.made(2, 3, 1);
            for (int q = 1; q < 5; q++) {
                x.question(2, 0, 0);
            }
            due("the least of all", x.next(0), 0);
            x.know(1, 0, 0);
            x.know(2, 0, 0);
            x.know(0, 0, 1);
            due("a later question of an earlier thing", x.next(0), 11);
            x.know(1, 1, 0);
            due("its next question", x.next(0), 12);
            for (int q = 2; q < 5; q++) {
                x.know(1, q, 0);
            }
            due("the next thing", x.next(0), 21);
        });
    }
}
