import java.math.BigInteger;
import java.util.ArrayList;
import java.util.Arrays;
import java.util.List;

/**
 * The document once more, word by word and without any thrift: fractions of BigIntegers, every
 * definition worked out anew from the list of answers. RandomRunsTest holds ManyEyes against it.
 */
final class PlainEyes {
    private static final int NONE = -1;

    private record Given(int judge, int thing, int question, int said, int kind) {
    }

    private record Asked(int answers, int parent, int wanted) {
    }

    private record Fraction(BigInteger above, BigInteger below) {
        static final Fraction ZERO = of(0, 1);

        static Fraction of(long above, long below) {
            return new Fraction(BigInteger.valueOf(above), BigInteger.valueOf(below)).plain();
        }

        Fraction plain() {
            BigInteger common = above.gcd(below);
            return new Fraction(above.divide(common), below.divide(common));
        }

        Fraction plus(Fraction other) {
            return new Fraction(above.multiply(other.below).add(other.above.multiply(below)),
                below.multiply(other.below)).plain();
        }

        Fraction minus(Fraction other) {
            return plus(new Fraction(other.above.negate(), other.below));
        }

        Fraction times(Fraction other) {
            return new Fraction(above.multiply(other.above), below.multiply(other.below)).plain();
        }

        Fraction by(Fraction other) {
            return times(new Fraction(other.below, other.above));
        }

        boolean isAbove(Fraction other) {
            return above.multiply(other.below).compareTo(other.above.multiply(below)) > 0;
        }

        int floorOfTimes(long times) {
            return above.multiply(BigInteger.valueOf(times)).divide(below).intValueExact();
        }
    }

    private static final class Shelf {
        private int sort = NONE;
        private long[] row;
        private int judge = NONE;
    }

    private int things = 0;
    private final List<Asked> asked = new ArrayList<>();
    private final List<Boolean> left = new ArrayList<>();
    private final List<Integer> sinceRest = new ArrayList<>();
    private List<Given> given = new ArrayList<>();
    private final int[][] truth = new int[40][5];
    private final int[][] agreed = new int[40][5];
    private final Shelf[] shelves = new Shelf[8];
    private int mark = 950;
    private int looks = 12;
    private int haste = 3;
    private final List<Integer> steps = new ArrayList<>();
    private final int[] refused = new int[7];
    // Tables as the latest reckoning made them: what counted then, by judge, question, answer, truth.
    private int[][][][] tables = new int[24][5][4][4];
    // Worked out anew after every change of what was given; kept, as it is asked for often.
    private int[] copiedOf = null;

    PlainEyes() {
        for (int t = 0; t < 40; t++) {
            Arrays.fill(truth[t], NONE);
            Arrays.fill(agreed[t], NONE);
        }
        for (int s = 0; s < 8; s++) {
            shelves[s] = new Shelf();
        }
    }

    private int refuse(int number) {
        refused[-1 - number]++;
        return number;
    }

    private boolean noShelf(int s) {
        return s < 0 || s > 7;
    }

    private boolean noJudge(int j) {
        return j < 0 || j >= left.size() || left.get(j);
    }

    private boolean noQuestion(int q) {
        return q < 0 || q >= asked.size();
    }

    private boolean noCase(int t, int q) {
        return t < 0 || t >= things || noQuestion(q);
    }

    private boolean noAnswer(int q, int b) {
        return noQuestion(q) || b < 0 || b >= asked.get(q).answers();
    }

    int row(int s, int sort, int n) {
        if (noShelf(s)) {
            return refuse(-1);
        }
        if (n < 0) {
            return refuse(-4);
        }
        if (sort < 0 || sort > 3) {
            return refuse(-6);
        }
        if (n > 100) {
            return refuse(-7);
        }
        shelves[s] = new Shelf();
        shelves[s].sort = sort;
        shelves[s].row = new long[n];
        return 1;
    }

    int set(int s, int i, long v) {
        if (noShelf(s)) {
            return refuse(-1);
        }
        if (shelves[s].judge != NONE) {
            return refuse(-2);
        }
        if (shelves[s].row == null) {
            return refuse(-3);
        }
        if (i < 0 || i >= shelves[s].row.length) {
            return refuse(-5);
        }
        int bits = 8 << shelves[s].sort;
        shelves[s].row[i] = v << (64 - bits) >> (64 - bits);
        return 1;
    }

    int copy(int p, int q, int i, int j, int n) {
        if (noShelf(p) || noShelf(q)) {
            return refuse(-1);
        }
        Shelf a = shelves[p];
        Shelf b = shelves[q];
        if (a.judge != NONE || b.judge != NONE || (a.row != null && b.row != null && a.sort != b.sort)) {
            return refuse(-2);
        }
        if (a.row == null || b.row == null) {
            return refuse(-3);
        }
        if (n < 0) {
            return refuse(-4);
        }
        if (i < 0 || j < 0 || (long) i + n > a.row.length || (long) j + n > b.row.length) {
            return refuse(-5);
        }
        long[] ahead = a.row.clone();
        for (int k = 0; k < n; k++) {
            b.row[j + k] = ahead[i + k];
        }
        return 1;
    }

    long element(int s, int i) {
        if (noShelf(s) || shelves[s].row == null || i < 0 || i >= shelves[s].row.length) {
            return 0;
        }
        return shelves[s].row[i];
    }

    int show(int s, int judge) {
        if (noShelf(s) || (judge != NONE && (judge < 0 || judge >= left.size()))) {
            return refuse(-1);
        }
        shelves[s] = new Shelf();
        shelves[s].judge = judge;
        return judge == NONE ? 0 : 1;
    }

    int holds(int s) {
        if (noShelf(s)) {
            return NONE;
        }
        return shelves[s].row != null ? 100 + shelves[s].sort : shelves[s].judge;
    }

    int countsIn(int s) {
        if (noShelf(s)) {
            return refuse(-1);
        }
        if (shelves[s].row != null) {
            return refuse(-2);
        }
        if (shelves[s].judge == NONE) {
            return refuse(-3);
        }
        int count = 0;
        for (Given g : given) {
            if (g.judge() == shelves[s].judge && counts(g)) {
                count++;
            }
        }
        return count;
    }

    int question(int answers, int parent, int wanted) {
        boolean first = asked.isEmpty();
        if (!first && noQuestion(parent)) {
            return refuse(-1);
        }
        if (answers < 2 || answers > 4 || (first && parent != NONE) || (!first && noAnswer(parent, wanted))) {
            return refuse(-6);
        }
        if (asked.size() == 5) {
            return refuse(-7);
        }
        asked.add(new Asked(answers, parent, wanted));
        return asked.size() - 1;
    }

    int things(int n) {
        if (n < 0) {
            return refuse(-4);
        }
        if ((long) things + n > 40) {
            return refuse(-7);
        }
        things += n;
        return things;
    }

    int judge() {
        if (left.size() == 24) {
            return refuse(-7);
        }
        left.add(false);
        sinceRest.add(0);
        return left.size() - 1;
    }

    int know(int t, int q, int b) {
        if (noCase(t, q)) {
            return refuse(-1);
        }
        if (b != NONE && noAnswer(q, b)) {
            return refuse(-6);
        }
        truth[t][q] = b;
        return 1;
    }

    private Given found(int j, int t, int q) {
        for (Given g : given) {
            if (g.judge() == j && g.thing() == t && g.question() == q) {
                return g;
            }
        }
        return null;
    }

    private int refusalOf(int j, int t, int q, int a, int ticks) {
        if (noJudge(j) || noCase(t, q)) {
            return -1;
        }
        if (noAnswer(q, a) || ticks < 0 || found(j, t, q) != null) {
            return -6;
        }
        return 0;
    }

    int answer(int j, int t, int q, int a, int ticks) {
        int refusal = refusalOf(j, t, q, a, ticks);
        if (refusal != 0) {
            return refuse(refusal);
        }
        int kind = ticks < haste ? 1 : sinceRest.get(j) >= 20 ? 2 : 0;
        sinceRest.set(j, sinceRest.get(j) + 1);
        given.add(new Given(j, t, q, a, kind));
        copiedOf = null;
        return kind;
    }

    int answers(int s) {
        if (noShelf(s)) {
            return refuse(-1);
        }
        if (shelves[s].judge != NONE) {
            return refuse(-2);
        }
        if (shelves[s].row == null) {
            return refuse(-3);
        }
        long[] row = shelves[s].row;
        int count = 0;
        while (5 * count + 5 <= row.length) {
            int[] five = new int[5];
            for (int k = 0; k < 5; k++) {
                five[k] = (int) row[5 * count + k];
            }
            if (refusalOf(five[0], five[1], five[2], five[3], five[4]) != 0) {
                return count;
            }
            answer(five[0], five[1], five[2], five[3], five[4]);
            count++;
        }
        return count;
    }

    int rest(int j) {
        if (noJudge(j)) {
            return refuse(-1);
        }
        sinceRest.set(j, 0);
        return 1;
    }

    int leave(int j) {
        if (noJudge(j)) {
            return refuse(-1);
        }
        left.set(j, true);
        int before = given.size();
        List<Given> kept = new ArrayList<>();
        for (Given g : given) {
            if (g.judge() != j) {
                kept.add(g);
            }
        }
        given = kept;
        copiedOf = null;
        return before - given.size();
    }

    int bar(int what, int n) {
        if (what == 0 && 1 <= n && n <= 1000) {
            mark = n;
        } else if (what == 1 && 1 <= n && n <= 24) {
            looks = n;
        } else if (what == 2 && 0 <= n && n <= 100) {
            haste = n;
        } else {
            return refuse(-6);
        }
        return 1;
    }

    int copied(int y) {
        if (noJudge(y)) {
            return NONE;
        }
        if (copiedOf == null) {
            copiedOf = new int[left.size()];
            for (int j = 0; j < left.size(); j++) {
                copiedOf[j] = findCopied(j);
            }
        }
        return y < copiedOf.length ? copiedOf[y] : NONE;
    }

    private int findCopied(int y) {
        if (left.get(y)) {
            return NONE;
        }
        int[] said = fairOnes(y);
        for (int x = 0; x < y; x++) {
            if (left.get(x)) {
                continue;
            }
            int[] others = fairOnes(x);
            int both = 0;
            boolean same = true;
            for (int c = 0; c < said.length; c++) {
                if (said[c] != NONE && others[c] != NONE) {
                    both++;
                    same &= said[c] == others[c];
                }
            }
            if (both >= 6 && same) {
                return x;
            }
        }
        return NONE;
    }

    private int[] fairOnes(int j) {
        int[] said = new int[200];
        Arrays.fill(said, NONE);
        for (Given g : given) {
            if (g.judge() == j && g.kind() == 0) {
                said[5 * g.thing() + g.question()] = g.said();
            }
        }
        return said;
    }

    private boolean counts(Given g) {
        if (g.kind() != 0) {
            return false;
        }
        int x = copied(g.judge());
        if (x == NONE) {
            return true;
        }
        Given other = found(x, g.thing(), g.question());
        return other == null || other.kind() != 0;
    }

    private List<Given> counting(int t, int q) {
        List<Given> list = new ArrayList<>();
        for (Given g : given) {
            if (g.thing() == t && g.question() == q && counts(g)) {
                list.add(g);
            }
        }
        return list;
    }

    int how(int j, int t, int q) {
        if (noJudge(j) || noCase(t, q) || found(j, t, q) == null) {
            return NONE;
        }
        Given g = found(j, t, q);
        return g.kind() != 0 ? g.kind() : counts(g) ? 0 : 3;
    }

    int looks(int t, int q) {
        return noCase(t, q) ? NONE : counting(t, q).size();
    }

    int top(int j, int q, int a, int b) {
        if (noJudge(j) || noAnswer(q, a) || noAnswer(q, b)) {
            return 0;
        }
        return 1 + tables[j][q][a][b];
    }

    int bottom(int j, int q, int b) {
        if (noJudge(j) || noAnswer(q, b)) {
            return 0;
        }
        int all = asked.get(q).answers();
        for (int a = 0; a < 4; a++) {
            all += tables[j][q][a][b];
        }
        return all;
    }

    private void makeTables() {
        tables = new int[24][5][4][4];
        for (int t = 0; t < things; t++) {
            for (int q = 0; q < asked.size(); q++) {
                int taken = truth[t][q] != NONE ? truth[t][q] : agreed[t][q];
                if (taken == NONE) {
                    continue;
                }
                for (Given g : counting(t, q)) {
                    tables[g.judge()][q][g.said()][taken]++;
                }
            }
        }
    }

    private Fraction[] shares(int t, int q) {
        int n = asked.get(q).answers();
        Fraction[] shares = new Fraction[n];
        if (truth[t][q] != NONE) {
            for (int b = 0; b < n; b++) {
                shares[b] = Fraction.of(b == truth[t][q] ? 1 : 0, 1);
            }
            return shares;
        }
        Fraction all = Fraction.ZERO;
        List<Given> counting = counting(t, q);
        for (int b = 0; b < n; b++) {
            shares[b] = Fraction.of(1, 1);
            for (Given g : counting) {
                shares[b] = shares[b].times(Fraction.of(top(g.judge(), q, g.said(), b), bottom(g.judge(), q, b)));
            }
            all = all.plus(shares[b]);
        }
        for (int b = 0; b < n; b++) {
            shares[b] = shares[b].by(all);
        }
        return shares;
    }

    private static int leadingOf(Fraction[] shares) {
        int lead = 0;
        for (int b = 1; b < shares.length; b++) {
            if (shares[b].isAbove(shares[lead])) {
                lead = b;
            }
        }
        return lead;
    }

    int share(int t, int q, int b) {
        return noCase(t, q) || noAnswer(q, b) ? NONE : shares(t, q)[b].floorOfTimes(1000000);
    }

    int leading(int t, int q) {
        return noCase(t, q) ? NONE : leadingOf(shares(t, q));
    }

    int reckon(boolean knownAlone) {
        for (int[] row : agreed) {
            Arrays.fill(row, NONE);
        }
        steps.clear();
        makeTables();
        while (!knownAlone && steps.size() < 30) {
            int[][] after = new int[40][];
            int changing = 0;
            for (int t = 0; t < 40; t++) {
                after[t] = agreed[t].clone();
            }
            for (int t = 0; t < things; t++) {
                for (int q = 0; q < asked.size(); q++) {
                    if (truth[t][q] != NONE || counting(t, q).isEmpty()) {
                        continue;
                    }
                    Fraction[] shares = shares(t, q);
                    int lead = leadingOf(shares);
                    int was = agreed[t][q];
                    if (was == NONE || shares[lead].isAbove(shares[was])) {
                        after[t][q] = lead;
                        changing++;
                    }
                }
            }
            for (int t = 0; t < 40; t++) {
                agreed[t] = after[t];
            }
            makeTables();
            steps.add(changing);
            if (changing == 0) {
                break;
            }
        }
        return steps.size();
    }

    int changed(int i) {
        return i < 0 || i >= steps.size() ? NONE : steps.get(i);
    }

    int agreed(int t, int q) {
        return noCase(t, q) ? NONE : agreed[t][q];
    }

    private boolean ended(int t, int q) {
        if (truth[t][q] != NONE) {
            return true;
        }
        int counting = counting(t, q).size();
        Fraction[] shares = shares(t, q);
        return counting > 0 && (counting >= looks
            || !Fraction.of(mark, 1000).isAbove(shares[leadingOf(shares)]));
    }

    private boolean open(int t, int q) {
        if (q == 0) {
            return true;
        }
        int parent = asked.get(q).parent();
        return open(t, parent) && ended(t, parent) && leadingOf(shares(t, parent)) == asked.get(q).wanted();
    }

    boolean is(int what, int t, int q) {
        if (noCase(t, q)) {
            return false;
        }
        return switch (what) {
            case 0 -> open(t, q);
            case 1 -> ended(t, q);
            case 2 -> truth[t][q] != NONE;
            default -> false;
        };
    }

    private Fraction gainOf(int j, int t, int q) {
        Fraction[] shares = shares(t, q);
        Fraction expected = Fraction.ZERO;
        for (int a = 0; a < shares.length; a++) {
            Fraction best = Fraction.ZERO;
            for (int b = 0; b < shares.length; b++) {
                Fraction one = shares[b].times(Fraction.of(top(j, q, a, b), bottom(j, q, b)));
                if (one.isAbove(best)) {
                    best = one;
                }
            }
            expected = expected.plus(best);
        }
        return expected.minus(shares[leadingOf(shares)]);
    }

    int gain(int j, int t, int q) {
        return noJudge(j) || noCase(t, q) ? NONE : gainOf(j, t, q).floorOfTimes(1000000);
    }

    int next(int j) {
        if (noJudge(j)) {
            return refuse(-1);
        }
        int best = NONE;
        Fraction greatest = null;
        for (int t = 0; t < things; t++) {
            for (int q = 0; q < asked.size(); q++) {
                if (open(t, q) && !ended(t, q) && found(j, t, q) == null) {
                    Fraction gain = gainOf(j, t, q);
                    if (greatest == null || gain.isAbove(greatest)) {
                        greatest = gain;
                        best = 10 * t + q;
                    }
                }
            }
        }
        return best;
    }

    int total(int q, int b) {
        if (noAnswer(q, b)) {
            return NONE;
        }
        Fraction all = Fraction.ZERO;
        for (int t = 0; t < things; t++) {
            if (open(t, q)) {
                all = all.plus(shares(t, q)[b]);
            }
        }
        return all.floorOfTimes(1000);
    }

    int status(int what) {
        int known = 0;
        int agreedOn = 0;
        int openEnded = 0;
        if (what >= 4 && what <= 6) {
            for (int t = 0; t < things; t++) {
                for (int q = 0; q < asked.size(); q++) {
                    known += truth[t][q] != NONE ? 1 : 0;
                    agreedOn += agreed[t][q] != NONE ? 1 : 0;
                    openEnded += what == 6 && open(t, q) && ended(t, q) ? 1 : 0;
                }
            }
        }
        int counting = 0;
        int gone = 0;
        for (Given g : given) {
            counting += counts(g) ? 1 : 0;
        }
        for (boolean one : left) {
            gone += one ? 1 : 0;
        }
        if (what >= 11 && what <= 17) {
            return refused[what - 11];
        }
        int[] low = {things, asked.size(), left.size(), gone, known, agreedOn, openEnded, given.size(), counting,
            mark, looks};
        return what == 18 ? haste : what >= 0 && what < low.length ? low[what] : NONE;
    }
}
