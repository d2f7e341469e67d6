/**
 * Runs of calls drawn from a fixed seed, each made on ManyEyes and on PlainEyes: every answer must
 * be the same. A kind of run says how much is asked for and how wild the arguments are.
 */
public final class RandomRunsTest {
    private static final int CALLS = 512;
    private static final Check check = new Check();

    private final Draw draw;
    private final ManyEyes x = new ManyEyes();
    private final PlainEyes y = new PlainEyes();
    private final int wild;
    private final int copying;
    private final int thingsAtMost;
    private final int judgesAtMost;

    private RandomRunsTest(long seed) {
        draw = new Draw(seed);
        wild = new int[] {0, 3, 12, 40}[draw.below(4)];
        copying = new int[] {0, 30, 70, 95}[draw.below(4)];
        thingsAtMost = new int[] {3, 8, 14, 40}[draw.below(4)];
        judgesAtMost = new int[] {2, 4, 9, 24}[draw.below(4)];
    }

    public static void main(String[] args) {
        int runs = args.length > 0 ? Integer.parseInt(args[0]) : 250;
        long from = args.length > 1 ? Long.parseLong(args[1]) : 1;
        for (long seed = from; seed < from + runs && check.isClean(); seed++) {
            check.about("seed " + seed);
            new RandomRunsTest(seed).run();
        }
        check.about("all there is");
        new RandomRunsTest(77).crowd();
        check.about("thirty steps");
        new RandomRunsTest(78).restless();
        check.close();
    }

    private void run() {
        furnish();
        for (int call = 0; call < CALLS && check.isClean(); call++) {
            step();
        }
        if (check.isClean()) {
            compareAll();
        }
    }

    private void furnish() {
        int answers = draw.from(2, 4);
        same("question", x.question(answers, -1, 0), y.question(answers, -1, 0));
        for (int q = draw.below(5); q > 0; q--) {
            askMore();
        }
        int things = draw.from(1, thingsAtMost);
        same("things", x.things(things), y.things(things));
        for (int j = draw.from(1, judgesAtMost); j > 0; j--) {
            same("judge", x.judge(), y.judge());
        }
    }

    private void askMore() {
        int answers = draw.from(2, 4);
        int parent = number(y.status(1));
        int wanted = draw.below(2);
        same("question", x.question(answers, parent, wanted), y.question(answers, parent, wanted));
    }

    private void step() {
        int kind = draw.below(100);
        if (kind < 48) {
            give();
        } else if (kind < 54) {
            know();
        } else if (kind < 60) {
            reckon();
        } else if (kind < 64) {
            change();
        } else if (kind < 72) {
            rows();
        } else {
            look();
        }
    }

    /** A number below so many, or at times one that is not. */
    private int number(int n) {
        if (draw.below(100) < wild || n == 0) {
            int[] odd = {-1, -2, n, n + 1, 100, Integer.MIN_VALUE, Integer.MAX_VALUE};
            return odd[draw.below(odd.length)];
        }
        return draw.below(n);
    }

    private int someJudge() {
        return number(y.status(2));
    }

    private int someThing() {
        return number(y.status(0));
    }

    private int someQuestion() {
        int n = y.status(1);
        return n > 1 && draw.below(2) == 0 ? number(1) : number(n);
    }

    private void give() {
        int j = someJudge();
        int t = someThing();
        int q = someQuestion();
        int a = draw.below(100) < copying ? (t * 5 + q) % 2 : number(3);
        int ticks = draw.below(12) == 0 ? draw.below(4) : number(120) + 3;
        same("answer", x.answer(j, t, q, a, ticks), y.answer(j, t, q, a, ticks));
    }

    private void know() {
        int t = someThing();
        int q = someQuestion();
        int b = draw.below(4) == 0 ? -1 : number(2);
        same("know", x.know(t, q, b), y.know(t, q, b));
    }

    private void reckon() {
        boolean alone = draw.below(3) == 0;
        same("reckon", x.reckon(alone), y.reckon(alone));
        for (int i = -1; i < 31; i++) {
            same("changed", x.changed(i), y.changed(i));
        }
    }

    private void change() {
        int kind = draw.below(8);
        if (kind == 0) {
            askMore();
        } else if (kind == 1) {
            int n = number(4);
            same("things", x.things(n), y.things(n));
        } else if (kind == 2) {
            same("judge", x.judge(), y.judge());
        } else if (kind == 3) {
            int j = someJudge();
            same("leave", x.leave(j), y.leave(j));
        } else if (kind == 4) {
            int j = someJudge();
            same("rest", x.rest(j), y.rest(j));
        } else {
            int what = number(3);
            int n = what == 0 ? 400 + draw.below(620) : what == 1 ? draw.below(26) : draw.below(104) - 1;
            if (what == 2 && n > 8 && draw.below(5) > 0) {
                n = 3;
            }
            same("bar", x.bar(what, n), y.bar(what, n));
        }
    }

    private void rows() {
        int s = number(8);
        int p = number(8);
        int n = number(8);
        int i = number(7);
        switch (draw.below(6)) {
            case 0 -> {
                int sort = number(4);
                int size = draw.below(4) == 0 ? number(101) : 10;
                same("row", x.row(s, sort, size), y.row(s, sort, size));
            }
            case 1 -> {
                long v = draw.below(3) == 0 ? draw.whole() : draw.below(3);
                same("set", x.set(s, i, v), y.set(s, i, v));
            }
            case 2 -> same("copy", x.copy(s, p, i, n, i), y.copy(s, p, i, n, i));
            case 3 -> {
                int j = draw.below(3) == 0 ? -1 : someJudge();
                same("show", x.show(s, j), y.show(s, j));
            }
            case 4 -> fill(s);
            default -> same("countsIn", x.countsIn(s), y.countsIn(s));
        }
        compareShelf(s);
        compareShelf(p);
    }

    private void fill(int s) {
        for (int k = 0; k < 10; k += 5) {
            int[] five = {someJudge(), someThing(), someQuestion(), draw.below(2), 9};
            for (int e = 0; e < 5; e++) {
                same("set", x.set(s, k + e, five[e]), y.set(s, k + e, five[e]));
            }
        }
        same("answers", x.answers(s), y.answers(s));
    }

    private void look() {
        int t = someThing();
        int q = someQuestion();
        int j = someJudge();
        int a = number(4);
        int b = number(4);
        int what = number(3);
        switch (draw.below(15)) {
            case 0 -> same("agreed", x.agreed(t, q), y.agreed(t, q));
            case 1 -> same("top", x.top(j, q, a, b), y.top(j, q, a, b));
            case 2 -> same("bottom", x.bottom(j, q, b), y.bottom(j, q, b));
            case 3 -> same("share", x.share(t, q, b), y.share(t, q, b));
            case 4 -> same("leading", x.leading(t, q), y.leading(t, q));
            case 5 -> same("is", x.is(what, t, q) ? 1 : 0, y.is(what, t, q) ? 1 : 0);
            case 6 -> same("looks", x.looks(t, q), y.looks(t, q));
            case 7 -> same("how", x.how(j, t, q), y.how(j, t, q));
            case 8 -> same("copied", x.copied(j), y.copied(j));
            case 9, 10 -> same("next", x.next(j), y.next(j));
            case 11 -> same("gain", x.gain(j, t, q), y.gain(j, t, q));
            case 12 -> same("total", x.total(q, b), y.total(q, b));
            default -> {
                int of = number(19);
                same("status", x.status(of), y.status(of));
            }
        }
    }

    private void compareShelf(int s) {
        same("holds", x.holds(s), y.holds(s));
        for (int i = -1; i < 14; i++) {
            same("element", x.element(s, i), y.element(s, i));
        }
    }

    private void compareAll() {
        for (int what = -1; what < 20; what++) {
            same("status " + what, x.status(what), y.status(what));
        }
        int questions = y.status(1);
        for (int q = 0; q < questions; q++) {
            for (int t = 0; t < y.status(0); t++) {
                compareCase(t, q);
            }
            for (int b = 0; b < 4; b++) {
                same("total", x.total(q, b), y.total(q, b));
            }
        }
        for (int j = 0; j < y.status(2); j++) {
            same("copied", x.copied(j), y.copied(j));
            same("next", x.next(j), y.next(j));
            for (int q = 0; q < questions; q++) {
                compareTable(j, q);
            }
        }
    }

    private void compareCase(int t, int q) {
        for (int b = 0; b < 4; b++) {
            same("share", x.share(t, q, b), y.share(t, q, b));
        }
        for (int what = 0; what < 3; what++) {
            same("is", x.is(what, t, q) ? 1 : 0, y.is(what, t, q) ? 1 : 0);
        }
        same("leading", x.leading(t, q), y.leading(t, q));
        same("looks", x.looks(t, q), y.looks(t, q));
        same("agreed", x.agreed(t, q), y.agreed(t, q));
        for (int j = 0; j < y.status(2); j += 3) {
            same("gain", x.gain(j, t, q), y.gain(j, t, q));
            same("how", x.how(j, t, q), y.how(j, t, q));
        }
    }

    private void compareTable(int j, int q) {
        for (int b = 0; b < 4; b++) {
            same("bottom", x.bottom(j, q, b), y.bottom(j, q, b));
            for (int a = 0; a < 4; a++) {
                same("top", x.top(j, q, a, b), y.top(j, q, a, b));
            }
        }
    }

    /** All things, questions, judges and answers there may be: the longest of numbers. */
    private void crowd() {
        same("question", x.question(4, -1, 0), y.question(4, -1, 0));
        for (int q = 1; q < 5; q++) {
            same("question", x.question(4, q - 1, 0), y.question(4, q - 1, 0));
        }
        same("things", x.things(40), y.things(40));
        for (int j = 0; j < 24; j++) {
            same("judge", x.judge(), y.judge());
        }
        for (int t = 0; t < 40; t++) {
            same("know", x.know(t, 0, t % 4), y.know(t, 0, t % 4));
        }
        for (int j = 0; j < 24; j++) {
            for (int t = 0; t < 40; t++) {
                same("rest", x.rest(j), y.rest(j));
                int a = draw.below(4);
                same("answer", x.answer(j, t, 0, a, 9), y.answer(j, t, 0, a, 9));
            }
        }
        same("reckon", x.reckon(true), y.reckon(true));
        for (int t = 0; t < 40; t++) {
            same("know", x.know(t, 0, -1), y.know(t, 0, -1));
        }
        compareAll();
        same("reckon", x.reckon(false), y.reckon(false));
        compareAll();
    }

    /** The reckoning that would take more than thirty steps. */
    private void restless() {
        same("question", x.question(4, -1, 0), y.question(4, -1, 0));
        same("things", x.things(40), y.things(40));
        for (int j = 0; j < PromiseTest.RESTLESS.length; j++) {
            same("judge", x.judge(), y.judge());
            for (int t = 0; t < 40; t++) {
                int a = PromiseTest.RESTLESS[j].charAt(t) - '0';
                same("rest", x.rest(j), y.rest(j));
                same("answer", x.answer(j, t, 0, a, 9), y.answer(j, t, 0, a, 9));
            }
        }
        same("reckon", x.reckon(false), y.reckon(false));
        for (int i = -1; i < 32; i++) {
            same("changed", x.changed(i), y.changed(i));
        }
        compareAll();
    }

    private void same(String call, long got, long want) {
        check.due(call, got, want);
    }

    /** Numbers that look drawn, the same from the same seed. */
    private static final class Draw {
        private long state;

        Draw(long seed) {
            state = seed * 0x9E3779B97F4A7C15L + 1;
        }

        long whole() {
            state ^= state << 13;
            state ^= state >>> 7;
            state ^= state << 17;
            return state * 0x2545F4914F6CDD1DL;
        }

        int below(int n) {
            return (int) Math.floorMod(whole() >>> 11, (long) n);
        }

        int from(int least, int most) {
            return least + below(most - least + 1);
        }
    }
}
