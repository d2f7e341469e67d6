/** Rooms that tests begin with, and the calls that fill them. */
final class Rooms {
    static final int NONE = ManyEyes.NONE;

    private Rooms() {
    }

    /** Things, judges, and one question of so many answers. */
    static ManyEyes made(int answers, int things, int judges) {
        ManyEyes x = new ManyEyes();
        x.question(answers, NONE, 0);
        x.things(things);
        for (int j = 0; j < judges; j++) {
            x.judge();
        }
        return x;
    }

    /** Fair answers of a judge to question 0 of the things from 0 on; NONE leaves one out. */
    static void give(ManyEyes x, int judge, int... answers) {
        for (int t = 0; t < answers.length; t++) {
            if (answers[t] != NONE) {
                x.answer(judge, t, 0, answers[t], 50);
            }
        }
    }

    /** So many like answers of a judge to question 0 of the things from one on. */
    static void giveMany(ManyEyes x, int judge, int from, int n, int answer, int ticks) {
        for (int t = from; t < from + n; t++) {
            x.answer(judge, t, 0, answer, ticks);
        }
    }

    static void put(ManyEyes x, int s, int from, long... values) {
        for (int k = 0; k < values.length; k++) {
            x.set(s, from + k, values[k]);
        }
    }

    static int refusals(ManyEyes x) {
        int all = 0;
        for (int r = 0; r < 7; r++) {
            all += x.status(11 + r);
        }
        return all;
    }

    /** A judge who was right in so many of the known things 0, 1, .. (0 and 1 by turns), and has rested. */
    static ManyEyes learned(int right, int things, int judges) {
        ManyEyes x = made(2, things, judges);
        for (int t = 0; t < right; t++) {
            x.know(t, 0, t % 2);
            x.rest(0);
            x.answer(0, t, 0, t % 2, 9);
        }
        x.reckon(true);
        return x;
    }

    /**
     * Two questions, three things, three judges of whom 2 has left, an answer of each kind but a tired
     * one, known and agreed cases, and in the shelves: three bytes, four ints, judge 1, nothing, judge
     * 2, no longs, five longs that are an answer, two bytes.
     */
    static ManyEyes busy() {
        ManyEyes x = made(2, 3, 3);
        x.question(3, 0, 1);
        x.know(0, 0, 1);
        x.know(1, 0, 0);
        give(x, 0, 1, 0, 1);
        x.answer(1, 2, 0, 1, 9);
        x.answer(1, 0, 1, 2, 9);
        x.answer(1, 1, 0, 1, 0);
        x.answer(2, 2, 0, 0, 9);
        x.leave(2);
        x.reckon(false);
        x.row(0, 0, 3);
        put(x, 0, 0, 7, 8, 9);
        x.row(1, 2, 4);
        put(x, 1, 0, 1, 2, 3, 4);
        x.show(2, 1);
        x.show(4, 2);
        x.row(5, 3, 0);
        x.row(6, 3, 5);
        put(x, 6, 0, 0, 0, 1, 2, 9);
        x.row(7, 0, 2);
        put(x, 7, 0, 5, 6);
        return x;
    }
}
