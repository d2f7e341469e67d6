/**
 * Things judged by many willing people, who are judged in turn. What each call answers is told in
 * ../shared/DOC.md, whose words in capitals are the names used here; the part of Java that the file
 * keeps to is told in ../shared/LANGUAGE.md.
 */
public final class ManyEyes {
    public static final int NONE = -1;

    private static final int THINGS_MOST = 40;
    private static final int QUESTIONS_MOST = 5;
    private static final int ANSWERS_LEAST = 2;
    private static final int ANSWERS_MOST = 4;
    private static final int JUDGES_MOST = 24;
    private static final int SHELVES = 8;
    private static final int ROW_MOST = 100;
    private static final int STEPS_MOST = 30;
    private static final int TIRED_FROM = 20;
    private static final int COPIED_FROM = 6;
    private static final int ELEMENTS_PER_ANSWER = 5;

    private static final int BYTES = 0;
    private static final int SHORTS = 1;
    private static final int INTS = 2;
    private static final int LONGS = 3;
    private static final int ROW_SIGN = 100;

    private static final int FAIR = 0;
    private static final int HASTY = 1;
    private static final int TIRED = 2;
    private static final int NOT_COUNTED = 3;

    private static final int MARK = 0;
    private static final int LOOKS = 1;
    private static final int HASTE = 2;
    private static final int MARK_MOST = 1000;
    private static final int LOOKS_MOST = 24;
    private static final int HASTE_MOST = 100;

    private static final int OPEN = 0;
    private static final int ENDED = 1;
    private static final int KNOWN = 2;

    private static final int FINE = 0;
    private static final int NOBODY = -1;
    private static final int OTHER = -2;
    private static final int NOTHING = -3;
    private static final int BELOW = -4;
    private static final int BEYOND = -5;
    private static final int WRONG = -6;
    private static final int ROOM = -7;
    private static final int REFUSALS = 7;

    private static final int THOUSAND = 1000;
    private static final int MILLION = 1000000;

    /*
     * How many limbs of 31 bits the exact numbers need. A judge's table for a question counts 40
     * answers at most, so the product of its (four) BOTTOMs is at most 14 * 14 * 14 * 14, below 2^16.
     * A WEIGHT over common denominators is then below 2^(24 * 16), and a GAIN in millionths, with its
     * own table on top, below 2^(384 + 2 + 16 + 20); two of them are multiplied to be compared. The
     * sum of 40 SHARES in thousandths stays below 2^(40 * 386 + 6 + 10), as do its trial divisors.
     */
    private static final int WEIGHT_LIMBS = 16;
    private static final int GAIN_LIMBS = 32;
    private static final int TOTAL_LIMBS = 500;

    private final Shelf[] shelves = new Shelf[SHELVES];
    private final Question[] questions = new Question[QUESTIONS_MOST];
    private final Judge[] judges = new Judge[JUDGES_MOST];
    private final Case[] cases = new Case[THINGS_MOST * QUESTIONS_MOST];
    private int thingCount = 0;
    private int questionCount = 0;
    private int judgeCount = 0;
    private int markBar = 950;
    private int looksBar = 12;
    private int hasteBar = 3;
    private final int[] changes = new int[STEPS_MOST];
    private int stepCount = 0;
    private final int[] refusals = new int[REFUSALS];

    private final Odds odds = new Odds();
    private final Survey survey = new Survey();
    private final Ratio ratio = new Ratio(GAIN_LIMBS);
    private final Ratio greatest = new Ratio(GAIN_LIMBS);
    private final Ratio sum = new Ratio(TOTAL_LIMBS);

    public ManyEyes() {
        for (int s = 0; s < SHELVES; s++) {
            shelves[s] = new Shelf();
        }
        for (int q = 0; q < QUESTIONS_MOST; q++) {
            questions[q] = new Question();
        }
        for (int j = 0; j < JUDGES_MOST; j++) {
            judges[j] = new Judge();
        }
        for (int c = 0; c < THINGS_MOST * QUESTIONS_MOST; c++) {
            cases[c] = new Case();
        }
    }

    // Shelves

    public int row(int s, int sort, int n) {
        if (!isShelf(s)) {
            return refuse(NOBODY);
        }
        if (n < 0) {
            return refuse(BELOW);
        }
        if (sort < BYTES || sort > LONGS) {
            return refuse(WRONG);
        }
        if (n > ROW_MOST) {
            return refuse(ROOM);
        }
        shelves[s].holdRow(sort, n);
        return 1;
    }

    public int set(int s, int i, long v) {
        int refusal = rowRefusal(s);
        if (refusal != FINE) {
            return refuse(refusal);
        }
        if (!shelves[s].hasRange(i, 1)) {
            return refuse(BEYOND);
        }
        shelves[s].put(i, v);
        return 1;
    }

    public int copy(int p, int q, int i, int j, int n) {
        if (!isShelf(p) || !isShelf(q)) {
            return refuse(NOBODY);
        }
        Shelf from = shelves[p];
        Shelf to = shelves[q];
        if (from.holdsJudge() || to.holdsJudge()) {
            return refuse(OTHER);
        }
        if (from.holdsRow() && to.holdsRow() && from.sort != to.sort) {
            return refuse(OTHER);
        }
        if (!from.holdsRow() || !to.holdsRow()) {
            return refuse(NOTHING);
        }
        if (n < 0) {
            return refuse(BELOW);
        }
        if (!from.hasRange(i, n) || !to.hasRange(j, n)) {
            return refuse(BEYOND);
        }
        System.arraycopy(from.elements, i, to.elements, j, n);
        return 1;
    }

    public long element(int s, int i) {
        if (!isShelf(s) || !shelves[s].holdsRow() || !shelves[s].hasRange(i, 1)) {
            return 0;
        }
        return shelves[s].elements[i];
    }

    public int show(int s, int judge) {
        if (!isShelf(s) || judge < NONE || judge >= judgeCount) {
            return refuse(NOBODY);
        }
        if (judge == NONE) {
            shelves[s].holdNothing();
            return 0;
        }
        shelves[s].holdJudge(judge);
        return 1;
    }

    public int holds(int s) {
        if (!isShelf(s)) {
            return NONE;
        }
        Shelf shelf = shelves[s];
        if (shelf.holdsRow()) {
            return ROW_SIGN + shelf.sort;
        }
        return shelf.judge;
    }

    public int countsIn(int s) {
        if (!isShelf(s)) {
            return refuse(NOBODY);
        }
        if (shelves[s].holdsRow()) {
            return refuse(OTHER);
        }
        if (!shelves[s].holdsJudge()) {
            return refuse(NOTHING);
        }
        return countingOf(shelves[s].judge);
    }

    // What is asked

    public int question(int answers, int parent, int wanted) {
        boolean first = questionCount == 0;
        if (!first && !isQuestion(parent)) {
            return refuse(NOBODY);
        }
        if (answers < ANSWERS_LEAST || answers > ANSWERS_MOST) {
            return refuse(WRONG);
        }
        if (first ? parent != NONE : !isAnswer(parent, wanted)) {
            return refuse(WRONG);
        }
        if (questionCount >= QUESTIONS_MOST) {
            return refuse(ROOM);
        }
        Question added = questions[questionCount];
        added.answers = answers;
        added.parent = parent;
        added.wanted = wanted;
        questionCount++;
        return questionCount - 1;
    }

    public int things(int n) {
        if (n < 0) {
            return refuse(BELOW);
        }
        if (n > THINGS_MOST - thingCount) {
            return refuse(ROOM);
        }
        thingCount += n;
        return thingCount;
    }

    public int judge() {
        if (judgeCount >= JUDGES_MOST) {
            return refuse(ROOM);
        }
        judgeCount++;
        return judgeCount - 1;
    }

    public int know(int thing, int question, int truth) {
        if (!isCase(thing, question)) {
            return refuse(NOBODY);
        }
        if (truth != NONE && !isAnswer(question, truth)) {
            return refuse(WRONG);
        }
        caseOf(thing, question).truth = truth;
        return 1;
    }

    // Answers

    public int answer(int judge, int thing, int question, int answer, int ticks) {
        int refusal = answerRefusal(judge, thing, question, answer, ticks);
        if (refusal != FINE) {
            return refuse(refusal);
        }
        return take(judge, thing, question, answer, ticks);
    }

    public int answers(int s) {
        int refusal = rowRefusal(s);
        if (refusal != FINE) {
            return refuse(refusal);
        }
        Shelf shelf = shelves[s];
        int given = 0;
        for (int at = 0; shelf.hasRange(at, ELEMENTS_PER_ANSWER); at += ELEMENTS_PER_ANSWER) {
            int judge = (int) shelf.elements[at];
            int thing = (int) shelf.elements[at + 1];
            int question = (int) shelf.elements[at + 2];
            int answer = (int) shelf.elements[at + 3];
            int ticks = (int) shelf.elements[at + 4];
            if (answerRefusal(judge, thing, question, answer, ticks) != FINE) {
                break;
            }
            take(judge, thing, question, answer, ticks);
            given++;
        }
        return given;
    }

    public int rest(int judge) {
        if (!isJudge(judge)) {
            return refuse(NOBODY);
        }
        judges[judge].sinceRest = 0;
        return 1;
    }

    public int leave(int judge) {
        if (!isJudge(judge)) {
            return refuse(NOBODY);
        }
        int given = judges[judge].given;
        judges[judge].left = true;
        judges[judge].given = 0;
        for (int c = 0; c < cases.length; c++) {
            cases[c].erase(judge);
        }
        findOriginals();
        return given;
    }

    public int bar(int what, int n) {
        if (what == MARK && n >= 1 && n <= MARK_MOST) {
            markBar = n;
            return 1;
        }
        if (what == LOOKS && n >= 1 && n <= LOOKS_MOST) {
            looksBar = n;
            return 1;
        }
        if (what == HASTE && n >= 0 && n <= HASTE_MOST) {
            hasteBar = n;
            return 1;
        }
        return refuse(WRONG);
    }

    public int how(int judge, int thing, int question) {
        if (!isJudge(judge) || !isCase(thing, question)) {
            return NONE;
        }
        Case judged = caseOf(thing, question);
        int kind = judged.kindOf(judge);
        if (kind == FAIR && !isCounting(judged, judge)) {
            return NOT_COUNTED;
        }
        return kind;
    }

    public int copied(int judge) {
        return isJudge(judge) ? judges[judge].original : NONE;
    }

    public int looks(int thing, int question) {
        return isCase(thing, question) ? countingAt(caseOf(thing, question)) : NONE;
    }

    // Tables and odds

    public int reckon(boolean knownAlone) {
        for (int c = 0; c < cases.length; c++) {
            cases[c].agreedOn = NONE;
        }
        makeTables();
        stepCount = 0;
        boolean moving = !knownAlone;
        for (int step = 0; step < STEPS_MOST && moving; step++) {
            changes[step] = takeStep();
            stepCount = step + 1;
            moving = changes[step] > 0;
        }
        return stepCount;
    }

    public int changed(int i) {
        return i >= 0 && i < stepCount && i < changes.length ? changes[i] : NONE;
    }

    public int agreed(int thing, int question) {
        return isCase(thing, question) ? caseOf(thing, question).agreedOn : NONE;
    }

    public int top(int judge, int question, int a, int b) {
        if (!isJudge(judge) || !isAnswer(question, a) || !isAnswer(question, b)) {
            return 0;
        }
        return judges[judge].topOf(question, a, b);
    }

    public int bottom(int judge, int question, int b) {
        if (!isJudge(judge) || !isAnswer(question, b)) {
            return 0;
        }
        return judges[judge].bottomOf(question, b, questions[question].answers);
    }

    public int share(int thing, int question, int b) {
        if (!isCase(thing, question) || !isAnswer(question, b)) {
            return NONE;
        }
        weigh(thing, question);
        ratio.setTo(odds.weights[b], odds.sum);
        return ratio.floorOfTimes(MILLION);
    }

    public int leading(int thing, int question) {
        if (!isCase(thing, question)) {
            return NONE;
        }
        weigh(thing, question);
        return odds.lead;
    }

    // Ends, and what is next

    public boolean is(int what, int thing, int question) {
        if (!isCase(thing, question)) {
            return false;
        }
        if (what == OPEN) {
            surveyThing(thing);
            return survey.open[question];
        }
        if (what == ENDED) {
            weigh(thing, question);
            return hasEnded(caseOf(thing, question));
        }
        return what == KNOWN && caseOf(thing, question).isKnown();
    }

    public int next(int judge) {
        if (!isJudge(judge)) {
            return refuse(NOBODY);
        }
        int best = NONE;
        for (int t = 0; t < thingCount; t++) {
            surveyThing(t);
            for (int q = 0; q < questionCount; q++) {
                if (!survey.open[q] || survey.ended[q] || caseOf(t, q).isAnsweredBy(judge)) {
                    continue;
                }
                weigh(t, q);
                odds.findGain(judges[judge], q, ratio);
                if (best == NONE || ratio.isAbove(greatest)) {
                    best = 10 * t + q;
                    greatest.setTo(ratio.above, ratio.below);
                }
            }
        }
        return best;
    }

    public int gain(int judge, int thing, int question) {
        if (!isJudge(judge) || !isCase(thing, question)) {
            return NONE;
        }
        weigh(thing, question);
        odds.findGain(judges[judge], question, ratio);
        return ratio.floorOfTimes(MILLION);
    }

    public int total(int question, int b) {
        if (!isAnswer(question, b)) {
            return NONE;
        }
        sum.setToZero();
        for (int t = 0; t < thingCount; t++) {
            surveyThing(t);
            if (survey.open[question]) {
                weigh(t, question);
                sum.add(odds.weights[b], odds.sum);
            }
        }
        return sum.floorOfTimes(THOUSAND);
    }

    public int status(int what) {
        switch (what) {
            case 0:
                return thingCount;
            case 1:
                return questionCount;
            case 2:
                return judgeCount;
            case 3:
                return leftCount();
            case 4:
                return knownCount();
            case 5:
                return agreedCount();
            case 6:
                return openEndedCount();
            case 7:
                return givenCount();
            case 8:
                return countingCount();
            case 9:
                return markBar;
            case 10:
                return looksBar;
            case 18:
                return hasteBar;
            default:
                return what > 10 && what - 11 < REFUSALS ? refusals[what - 11] : NONE;
        }
    }

    // What is there, and what is refused

    private boolean isShelf(int s) {
        return s >= 0 && s < SHELVES;
    }

    private boolean isJudge(int judge) {
        return judge >= 0 && judge < judgeCount && !judges[judge].left;
    }

    private boolean isQuestion(int question) {
        return question >= 0 && question < questionCount;
    }

    private boolean isAnswer(int question, int answer) {
        return isQuestion(question) && answer >= 0 && answer < questions[question].answers;
    }

    private boolean isCase(int thing, int question) {
        return thing >= 0 && thing < thingCount && isQuestion(question);
    }

    /** The case of a thing and a question that have been tested by isCase(). */
    private Case caseOf(int thing, int question) {
        return cases[thing * QUESTIONS_MOST + question];
    }

    private int refuse(int refusal) {
        int at = -1 - refusal;
        if (at >= 0 && at < refusals.length) {
            refusals[at]++;
        }
        return refusal;
    }

    /** Why a call that wants a row in the shelf is refused, or FINE. */
    private int rowRefusal(int s) {
        if (!isShelf(s)) {
            return NOBODY;
        }
        if (shelves[s].holdsJudge()) {
            return OTHER;
        }
        return shelves[s].holdsRow() ? FINE : NOTHING;
    }

    private int answerRefusal(int judge, int thing, int question, int answer, int ticks) {
        if (!isJudge(judge) || !isCase(thing, question)) {
            return NOBODY;
        }
        if (!isAnswer(question, answer) || ticks < 0 || caseOf(thing, question).isAnsweredBy(judge)) {
            return WRONG;
        }
        return FINE;
    }

    // Answers that count

    /** Takes an answer that answerRefusal() found FINE, and answers of which kind it is. */
    private int take(int judge, int thing, int question, int answer, int ticks) {
        Judge giver = judges[judge];
        int kind = FAIR;
        if (ticks < hasteBar) {
            kind = HASTY;
        } else if (giver.sinceRest >= TIRED_FROM) {
            kind = TIRED;
        }
        giver.given++;
        giver.sinceRest++;
        Case judged = caseOf(thing, question);
        judged.note(judge, kind, answer);
        if (kind == FAIR) {
            compareWithOthers(judged, judge);
            findOriginals();
        }
        return kind;
    }

    private void compareWithOthers(Case judged, int judge) {
        for (int other = 0; other < judgeCount; other++) {
            if (other != judge && judged.kindOf(other) == FAIR) {
                boolean same = judged.saidBy(other) == judged.saidBy(judge);
                judges[Math.max(judge, other)].meet(Math.min(judge, other), same);
            }
        }
    }

    private void findOriginals() {
        for (int j = 0; j < judgeCount; j++) {
            judges[j].original = judges[j].left ? NONE : originalOf(j);
        }
    }

    private int originalOf(int judge) {
        for (int earlier = 0; earlier < judge; earlier++) {
            if (!judges[earlier].left && judges[judge].alikeWith(earlier) >= COPIED_FROM) {
                return earlier;
            }
        }
        return NONE;
    }

    private boolean isCounting(Case judged, int judge) {
        if (judged.kindOf(judge) != FAIR) {
            return false;
        }
        int original = judges[judge].original;
        return original == NONE || judged.kindOf(original) != FAIR;
    }

    private int countingAt(Case judged) {
        int counting = 0;
        for (int j = 0; j < judgeCount; j++) {
            if (isCounting(judged, j)) {
                counting++;
            }
        }
        return counting;
    }

    private int countingOf(int judge) {
        int counting = 0;
        for (int c = 0; c < cases.length; c++) {
            if (isCounting(cases[c], judge)) {
                counting++;
            }
        }
        return counting;
    }

    // Reckoning

    /** Makes all tables anew from the cases that are known or agreed. */
    private void makeTables() {
        for (int j = 0; j < judgeCount; j++) {
            judges[j].clearTables();
        }
        for (int t = 0; t < thingCount; t++) {
            for (int q = 0; q < questionCount; q++) {
                Case judged = caseOf(t, q);
                int truth = judged.isKnown() ? judged.truth : judged.agreedOn;
                if (truth != NONE) {
                    tally(judged, q, truth);
                }
            }
        }
    }

    private void tally(Case judged, int question, int truth) {
        for (int j = 0; j < judgeCount; j++) {
            if (isCounting(judged, j)) {
                judges[j].countSaid(question, judged.saidBy(j), truth);
            }
        }
    }

    /** Answers how many cases changed. All of them are looked at before any table is mended. */
    private int takeStep() {
        int changing = 0;
        for (int t = 0; t < thingCount; t++) {
            for (int q = 0; q < questionCount; q++) {
                if (agree(t, q)) {
                    changing++;
                }
            }
        }
        makeTables();
        return changing;
    }

    private boolean agree(int thing, int question) {
        Case judged = caseOf(thing, question);
        if (judged.isKnown()) {
            return false;
        }
        weigh(thing, question);
        if (odds.looks == 0) {
            return false;
        }
        if (judged.agreedOn != NONE && !odds.isAbove(odds.lead, judged.agreedOn)) {
            return false;
        }
        judged.agreedOn = odds.lead;
        return true;
    }

    /** Sets the odds to those of the case, by the tables as they are. */
    private void weigh(int thing, int question) {
        Case judged = caseOf(thing, question);
        odds.start(questions[question].answers, judged.truth);
        for (int j = 0; j < judgeCount; j++) {
            if (isCounting(judged, j)) {
                odds.hear(judges[j], question, judged.saidBy(j));
            }
        }
        odds.close();
    }

    // Ends

    /** Whether the case has ended whose odds have just been weighed. */
    private boolean hasEnded(Case judged) {
        if (judged.isKnown()) {
            return true;
        }
        return odds.looks > 0 && (odds.looks >= looksBar || odds.reaches(markBar));
    }

    /**
     * Sets the survey to what is open of a thing, parents ahead of their children, and to what of it
     * has ended; whether a case that isn't open has ended is asked for nowhere, and not looked at.
     */
    private void surveyThing(int thing) {
        for (int q = 0; q < questionCount; q++) {
            survey.open[q] = q == 0 || survey.leadsTo(questions[q].parent, questions[q].wanted);
            if (survey.open[q]) {
                weigh(thing, q);
                survey.ended[q] = hasEnded(caseOf(thing, q));
                survey.lead[q] = odds.lead;
            }
        }
    }

    // Counts for status()

    private int leftCount() {
        int count = 0;
        for (int j = 0; j < judgeCount; j++) {
            if (judges[j].left) {
                count++;
            }
        }
        return count;
    }

    private int givenCount() {
        int count = 0;
        for (int j = 0; j < judgeCount; j++) {
            count += judges[j].given;
        }
        return count;
    }

    private int countingCount() {
        int count = 0;
        for (int j = 0; j < judgeCount; j++) {
            count += countingOf(j);
        }
        return count;
    }

    private int knownCount() {
        int count = 0;
        for (int c = 0; c < cases.length; c++) {
            if (cases[c].isKnown()) {
                count++;
            }
        }
        return count;
    }

    private int agreedCount() {
        int count = 0;
        for (int c = 0; c < cases.length; c++) {
            if (cases[c].agreedOn != NONE) {
                count++;
            }
        }
        return count;
    }

    private int openEndedCount() {
        int count = 0;
        for (int t = 0; t < thingCount; t++) {
            surveyThing(t);
            for (int q = 0; q < questionCount; q++) {
                if (survey.open[q] && survey.ended[q]) {
                    count++;
                }
            }
        }
        return count;
    }

    /** A shelf: nothing, a row or a judge. */
    private static final class Shelf {
        private boolean withRow = false;
        private int judge = NONE;
        private int sort = BYTES;
        private int size = 0;
        private final long[] elements = new long[ROW_MOST];

        void holdNothing() {
            withRow = false;
            judge = NONE;
        }

        void holdJudge(int shown) {
            withRow = false;
            judge = shown;
        }

        void holdRow(int newSort, int newSize) {
            withRow = true;
            judge = NONE;
            sort = newSort;
            size = Math.min(newSize, elements.length);
            for (int i = 0; i < size; i++) {
                elements[i] = 0;
            }
        }

        boolean holdsRow() {
            return withRow;
        }

        boolean holdsJudge() {
            return judge != NONE;
        }

        boolean hasRange(int from, int n) {
            return from >= 0 && n >= 0 && from <= size && n <= size - from;
        }

        /** Puts a value in at an index that hasRange() has tested. */
        void put(int i, long value) {
            switch (sort) {
                case BYTES:
                    elements[i] = (byte) value;
                    break;
                case SHORTS:
                    elements[i] = (short) value;
                    break;
                case INTS:
                    elements[i] = (int) value;
                    break;
                default:
                    elements[i] = value;
                    break;
            }
        }
    }

    private static final class Question {
        private int answers = ANSWERS_LEAST;
        private int parent = NONE;
        private int wanted = NONE;
    }

    /** A thing with a question: what is known and agreed of it, and what each judge said. */
    private static final class Case {
        private int truth = NONE;
        private int agreedOn = NONE;
        // By judge: 0 without an answer, else 1 + 4 times its kind + the answer.
        private final byte[] notes = new byte[JUDGES_MOST];

        boolean isKnown() {
            return truth != NONE;
        }

        boolean isAnsweredBy(int judge) {
            return judge >= 0 && judge < notes.length && notes[judge] > 0;
        }

        int kindOf(int judge) {
            return isAnsweredBy(judge) ? (notes[judge] - 1) / ANSWERS_MOST : NONE;
        }

        int saidBy(int judge) {
            return isAnsweredBy(judge) ? (notes[judge] - 1) % ANSWERS_MOST : NONE;
        }

        void note(int judge, int kind, int said) {
            if (judge >= 0 && judge < notes.length) {
                notes[judge] = (byte) (1 + ANSWERS_MOST * kind + said);
            }
        }

        void erase(int judge) {
            if (judge >= 0 && judge < notes.length) {
                notes[judge] = 0;
            }
        }
    }

    /** A judge: how they work, whom they are like, and their tables. */
    private static final class Judge {
        private static final int UNLIKE = -1;

        private boolean left = false;
        private int given = 0;
        private int sinceRest = 0;
        private int original = NONE;
        // By earlier judge: in how many cases both were fair and said the same; UNLIKE once they did not.
        private final int[] alike = new int[JUDGES_MOST];
        // By question, answer and truth: how many answers counted at the latest reckoning.
        private final int[] said = new int[QUESTIONS_MOST * ANSWERS_MOST * ANSWERS_MOST];
        private final int[] saidInAll = new int[QUESTIONS_MOST * ANSWERS_MOST];

        void meet(int earlier, boolean same) {
            if (earlier >= 0 && earlier < alike.length && alike[earlier] != UNLIKE) {
                alike[earlier] = same ? alike[earlier] + 1 : UNLIKE;
            }
        }

        int alikeWith(int earlier) {
            return earlier >= 0 && earlier < alike.length ? alike[earlier] : UNLIKE;
        }

        void clearTables() {
            for (int i = 0; i < said.length; i++) {
                said[i] = 0;
            }
            for (int i = 0; i < saidInAll.length; i++) {
                saidInAll[i] = 0;
            }
        }

        void countSaid(int question, int a, int b) {
            int cell = (question * ANSWERS_MOST + a) * ANSWERS_MOST + b;
            int column = question * ANSWERS_MOST + b;
            if (cell >= 0 && cell < said.length && column >= 0 && column < saidInAll.length) {
                said[cell]++;
                saidInAll[column]++;
            }
        }

        int topOf(int question, int a, int b) {
            int cell = (question * ANSWERS_MOST + a) * ANSWERS_MOST + b;
            return cell >= 0 && cell < said.length ? 1 + said[cell] : 0;
        }

        int bottomOf(int question, int b, int answers) {
            int column = question * ANSWERS_MOST + b;
            return column >= 0 && column < saidInAll.length ? answers + saidInAll[column] : 0;
        }

        /** TOP(a, b) by BOTTOM(b), over the product of all the question's BOTTOMs. */
        int factor(int question, int a, int b, int answers) {
            int product = topOf(question, a, b);
            for (int other = 0; other < answers; other++) {
                if (other != b) {
                    product *= bottomOf(question, other, answers);
                }
            }
            return product;
        }

        int bottomProduct(int question, int answers) {
            int product = 1;
            for (int b = 0; b < answers; b++) {
                product *= bottomOf(question, b, answers);
            }
            return product;
        }
    }

    /** Of one thing, by question: what is open, and of that what has ended, and what leads. */
    private static final class Survey {
        private final boolean[] open = new boolean[QUESTIONS_MOST];
        private final boolean[] ended = new boolean[QUESTIONS_MOST];
        private final int[] lead = new int[QUESTIONS_MOST];

        boolean leadsTo(int parent, int wanted) {
            return parent >= 0 && parent < QUESTIONS_MOST
                && open[parent] && ended[parent] && lead[parent] == wanted;
        }
    }

    /** The odds of one case: whole numbers that are to one another as the SHARES are. */
    private static final class Odds {
        private final Big[] weights = new Big[ANSWERS_MOST];
        private final Big sum = new Big(WEIGHT_LIMBS);
        private final Big term = new Big(WEIGHT_LIMBS);
        private final Big best = new Big(WEIGHT_LIMBS);
        private int answers = ANSWERS_LEAST;
        private int truth = NONE;
        private int looks = 0;
        private int lead = 0;

        Odds() {
            for (int b = 0; b < ANSWERS_MOST; b++) {
                weights[b] = new Big(WEIGHT_LIMBS);
            }
        }

        void start(int answersThere, int truthThere) {
            answers = Math.min(answersThere, ANSWERS_MOST);
            truth = truthThere;
            looks = 0;
            for (int b = 0; b < answers; b++) {
                weights[b].setTo(truth == NONE || truth == b ? 1 : 0);
            }
        }

        void hear(Judge judge, int question, int a) {
            looks++;
            if (truth == NONE) {
                for (int b = 0; b < answers; b++) {
                    weights[b].multiply(judge.factor(question, a, b, answers));
                }
            }
        }

        void close() {
            sum.setTo(0);
            lead = 0;
            for (int b = 0; b < answers; b++) {
                sum.add(weights[b]);
                if (isAbove(b, lead)) {
                    lead = b;
                }
            }
        }

        boolean isAbove(int b, int other) {
            return b >= 0 && b < answers && other >= 0 && other < answers
                && weights[b].isAbove(weights[other]);
        }

        /** Whether the greatest share, in thousandths, is the mark or more. */
        boolean reaches(int mark) {
            term.setTo(weights[lead]);
            term.multiply(THOUSAND);
            best.setTo(sum);
            best.multiply(mark);
            return !best.isAbove(term);
        }

        /** Sets a ratio to GAIN for a judge; EXPECTED and the greatest share over one denominator. */
        void findGain(Judge judge, int question, Ratio gain) {
            int whole = judge.bottomProduct(question, answers);
            gain.above.setTo(0);
            for (int a = 0; a < answers; a++) {
                best.setTo(0);
                for (int b = 0; b < answers; b++) {
                    term.setTo(weights[b]);
                    term.multiply(judge.factor(question, a, b, answers));
                    if (term.isAbove(best)) {
                        best.setTo(term);
                    }
                }
                gain.above.add(best);
            }
            term.setTo(weights[lead]);
            term.multiply(whole);
            gain.above.subtract(term);
            gain.below.setTo(sum);
            gain.below.multiply(whole);
        }
    }

    /** A fraction that is not below 0. */
    private static final class Ratio {
        private final Big above;
        private final Big below;
        private final Big product;
        private final Big otherProduct;

        Ratio(int limbs) {
            above = new Big(limbs);
            below = new Big(limbs);
            product = new Big(limbs);
            otherProduct = new Big(limbs);
        }

        void setToZero() {
            above.setTo(0);
            below.setTo(1);
        }

        void setTo(Big newAbove, Big newBelow) {
            above.setTo(newAbove);
            below.setTo(newBelow);
        }

        void add(Big otherAbove, Big otherBelow) {
            product.setToProduct(above, otherBelow);
            otherProduct.setToProduct(otherAbove, below);
            product.add(otherProduct);
            above.setTo(product);
            product.setToProduct(below, otherBelow);
            below.setTo(product);
        }

        boolean isAbove(Ratio other) {
            product.setToProduct(above, other.below);
            otherProduct.setToProduct(other.above, below);
            return product.isAbove(otherProduct);
        }

        /** It times a number, rounded down, where that is below 2^20; the bits are found from the top. */
        int floorOfTimes(int times) {
            product.setTo(above);
            product.multiply(times);
            int floor = 0;
            for (int bit = 19; bit >= 0; bit--) {
                int tried = floor + (1 << bit);
                otherProduct.setTo(below);
                otherProduct.multiply(tried);
                if (!otherProduct.isAbove(product)) {
                    floor = tried;
                }
            }
            return floor;
        }
    }

    /** A whole number that is not below 0, of limbs of 31 bits, the lowest first. */
    private static final class Big {
        private static final int BITS = 31;
        private static final int LIMB = 0x7fffffff;

        private final int[] limbs;
        private int size = 0;

        Big(int most) {
            limbs = new int[Math.max(most, 1)];
        }

        void setTo(int value) {
            limbs[0] = value & LIMB;
            size = 1;
            trim();
        }

        void setTo(Big other) {
            size = Math.min(other.size, limbs.length);
            System.arraycopy(other.limbs, 0, limbs, 0, size);
        }

        /** Becomes the product of two others, neither of which is this one. */
        void setToProduct(Big left, Big right) {
            size = Math.min(left.size + right.size, limbs.length);
            for (int k = 0; k < size; k++) {
                limbs[k] = 0;
            }
            for (int k = 0; k < left.size; k++) {
                addMultiple(right, left.limbs[k], k);
            }
            trim();
        }

        void multiply(int by) {
            long carry = 0;
            for (int k = 0; k < size; k++) {
                long at = (long) limbs[k] * by + carry;
                limbs[k] = (int) (at & LIMB);
                carry = at >>> BITS;
            }
            push(carry);
            trim();
        }

        void add(Big other) {
            long carry = 0;
            int reach = Math.max(size, Math.min(other.size, limbs.length));
            for (int k = 0; k < reach; k++) {
                long at = carry + limbAt(k) + other.limbAt(k);
                limbs[k] = (int) (at & LIMB);
                carry = at >>> BITS;
            }
            size = reach;
            push(carry);
        }

        /** Takes away another one that is not above this one. */
        void subtract(Big other) {
            int borrow = 0;
            for (int k = 0; k < size; k++) {
                int at = limbs[k] - other.limbAt(k) - borrow;
                limbs[k] = at & LIMB;
                borrow = at < 0 ? 1 : 0;
            }
            trim();
        }

        boolean isAbove(Big other) {
            if (size != other.size) {
                return size > other.size;
            }
            for (int k = size - 1; k >= 0; k--) {
                if (limbs[k] != other.limbs[k]) {
                    return limbs[k] > other.limbs[k];
                }
            }
            return false;
        }

        private int limbAt(int k) {
            return k >= 0 && k < size ? limbs[k] : 0;
        }

        private void addMultiple(Big right, int by, int from) {
            long carry = 0;
            int reach = Math.min(right.size, limbs.length - from);
            for (int k = 0; k < reach; k++) {
                long at = (long) by * right.limbs[k] + limbs[from + k] + carry;
                limbs[from + k] = (int) (at & LIMB);
                carry = at >>> BITS;
            }
            if (from + reach < size) {
                limbs[from + reach] = (int) carry;
            }
        }

        private void push(long carry) {
            if (carry > 0 && size < limbs.length) {
                limbs[size] = (int) carry;
                size++;
            }
        }

        private void trim() {
            while (size > 0 && limbs[size - 1] == 0) {
                size--;
            }
        }
    }
}
