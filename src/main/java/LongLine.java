/**
 * A long line on which each end hears the others a told while later. The
 * document (DOC.md) tells every call; the words in capitals here are its words.
 */
public final class LongLine {
    public static final int NONE = -1;

    /** What a call answers for others, where NONE already says something. */
    private static final int NO_SUCH = -2;

    private static final int MOST_ENDS = 4;
    private static final int MOST_WAIT = 99;
    private static final int MOST_SPREAD = 24;
    private static final int MOST_STOPS = 99;
    private static final int MOST_LONG = 99;
    private static final int MOST_DELAY = 60;
    private static final int MOST_BOTH_WAYS = 122;
    private static final int MOST_RULE = 3;
    private static final int MOST_SEED = 9999;
    private static final int MOST_TENTH = 9000;
    private static final int MOST_GO = 300;
    private static final int MOST_TRIAL = 3000;
    private static final int MOST_TURNS = 90;
    private static final int MOST_YESES = 40;
    private static final int MOST_STEPS = 30;
    private static final int MOST_TEXTS = 4;
    private static final int MOST_BYTES = 300;
    private static final int MOST_CLAUSES = 24;
    private static final int MOST_OPEN = 8;
    private static final int MOST_NUMBER = 9999;
    private static final int MOST_VALUE = 1000000;
    private static final int MOST_PRICE = 99;
    private static final int MOST_PENCE = 9999;
    private static final int MOST_TOLD_AHEAD = 8;
    private static final int MINUTE = 600;
    private static final int FIRST_X = 13;
    private static final int NEVER_CALLED = 9999;

    private static final int NOT_TOLD = 0;
    private static final int ONE_TOO_MANY = 1;
    private static final int AS_THINGS_STAND = 2;

    private static final int SAID = 1;
    private static final int YIELDED = 2;
    private static final int HUSHED = 3;

    private final State now = new State();
    private final State kept = new State();
    private final Line trial = new Line();
    private final Book blank = new Book(0, 0);
    private final Text[] texts = new Text[MOST_TEXTS];
    private final Reader reader = new Reader();
    private final Laws laws = new Laws();
    /** Made when it is first asked for: its rows are long. */
    private Pair pair;

    public LongLine() {
        for (int i = 0; i < MOST_TEXTS; i++) {
            texts[i] = new Text();
        }
    }

    // ---- acts ----

    public int tellEnd(int wait, int spread, int stops, int length) {
        if (!within(wait, 0, MOST_WAIT) || !within(spread, 0, MOST_SPREAD)
                || !within(stops, 0, MOST_STOPS) || !within(length, 1, MOST_LONG)) {
            return refuse(NOT_TOLD, NONE);
        }
        if (now.told.count >= MOST_ENDS) {
            return refuse(ONE_TOO_MANY, NONE);
        }
        return now.told.add(wait, spread, stops, length);
    }

    public boolean seed(int seed) {
        if (!within(seed, 0, MOST_SEED)) {
            return refuseFlatly(NOT_TOLD);
        }
        now.line.x = seed * 3 + FIRST_X;
        return true;
    }

    public boolean delay(int from, int to, int tenths) {
        if (!areTwoEnds(from, to) || !within(tenths, 0, MOST_DELAY)) {
            return refuseFlatly(NOT_TOLD);
        }
        if (now.line.delayOf(from, to) == tenths) {
            return refuseFlatly(AS_THINGS_STAND);
        }
        now.keepStep();
        now.line.delays[from * MOST_ENDS + to] = tenths;
        return true;
    }

    public boolean rule(int rule) {
        if (!within(rule, 0, MOST_RULE)) {
            return refuseFlatly(NOT_TOLD);
        }
        if (now.line.rule == rule) {
            return refuseFlatly(AS_THINGS_STAND);
        }
        now.keepStep();
        now.line.rule = rule;
        return true;
    }

    public int speak(int end, int length) {
        if (!isEnd(end) || !within(length, 1, MOST_LONG)) {
            return refuse(NOT_TOLD, NONE);
        }
        if (now.book.isFull(now.line.turns)) {
            return refuse(ONE_TOO_MANY, NONE);
        }
        if (now.line.ends[end].speaking) {
            return refuse(AS_THINGS_STAND, NONE);
        }
        now.keepStep();
        now.line.openTurn(end, now.line.tenth + 1, length, now.book);
        return now.line.ends[end].turn;
    }

    public int hush(int end) {
        if (!isEnd(end)) {
            return refuse(NOT_TOLD, NONE);
        }
        if (!now.line.ends[end].speaking) {
            return refuse(AS_THINGS_STAND, NONE);
        }
        now.keepStep();
        now.line.closeTurn(end, now.line.tenth + 1, HUSHED, now.book);
        return now.line.ends[end].turn;
    }

    public int yes(int end) {
        if (!isEnd(end)) {
            return refuse(NOT_TOLD, NO_SUCH);
        }
        if (now.line.yeses >= MOST_YESES) {
            return refuse(ONE_TOO_MANY, NO_SUCH);
        }
        now.keepStep();
        return now.book.addYes(end, now.line);
    }

    public int go(int tenths) {
        if (!within(tenths, 1, MOST_GO)) {
            return refuse(NOT_TOLD, NONE);
        }
        if (now.line.tenth + tenths > MOST_TENTH) {
            return refuse(ONE_TOO_MANY, NONE);
        }
        now.keepStep();
        return now.line.pass(tenths, now.told, lawsNow(), now.book);
    }

    public int feed(int a, int b, int c, int d, int e) {
        if (reader.length + 20 > MOST_BYTES) {
            return refuse(ONE_TOO_MANY, NONE);
        }
        reader.take(a);
        reader.take(b);
        reader.take(c);
        reader.take(d);
        reader.take(e);
        return reader.length;
    }

    public int end(int n) {
        if (!within(n, 0, reader.length)) {
            return refuse(NOT_TOLD, NONE);
        }
        reader.length = n;
        return n;
    }

    public int text() {
        if (now.texts >= MOST_TEXTS) {
            return refuse(ONE_TOO_MANY, NONE);
        }
        reader.readInto(texts[now.texts]);
        if (reader.fault != 0) {
            return NONE;
        }
        now.texts++;
        return now.texts - 1;
    }

    public boolean by(int text) {
        if (text != NONE && !within(text, 0, now.texts - 1)) {
            return refuseFlatly(NOT_TOLD);
        }
        now.ruling = text;
        return true;
    }

    public int played(int text) {
        if (!within(text, 0, now.texts - 1)) {
            return refuse(NOT_TOLD, NO_SUCH);
        }
        Text script = texts[text];
        for (int i = 0; i < script.clauses; i++) {
            int a = script.one[i];
            int b = script.two[i];
            boolean done = true;
            switch (script.kind[i]) {
                case Reader.SPEAK: done = speak(a, b) != NONE; break;
                case Reader.HUSH: done = hush(a) != NONE; break;
                case Reader.YES: done = yes(a) != NO_SUCH; break;
                case Reader.GO: done = go(a) != NONE; break;
                case Reader.DELAY: done = delay(a, b, script.three[i]); break;
                case Reader.RULE: done = rule(a); break;
                default: break;
            }
            if (!done) {
                return i;
            }
        }
        return NONE;
    }

    public int undo() {
        if (now.stepCount == 0) {
            return refuse(AS_THINGS_STAND, NONE);
        }
        now.takeStepBack();
        return now.stepCount;
    }

    public boolean price(int p, int q, int m) {
        if (!within(p, 0, MOST_PRICE) || !within(q, 0, MOST_PRICE) || !within(m, 0, MOST_PRICE)) {
            return refuseFlatly(NOT_TOLD);
        }
        now.pricedFirst = p;
        now.pricedBehind = q;
        now.pricedMinutes = m;
        return true;
    }

    public int agree(int words, int saves, int needs) {
        if (words == NONE) {
            now.agreed.count = 0;
            return 0;
        }
        if (!within(words, 1, 99) || !within(saves, 0, 99) || !now.agreed.areTold(needs)) {
            return refuse(NOT_TOLD, NO_SUCH);
        }
        if (now.agreed.count >= MOST_TOLD_AHEAD) {
            return refuse(ONE_TOO_MANY, NO_SUCH);
        }
        now.agreed.add(words, saves, needs);
        return now.agreed.count;
    }

    public int heard(int from, int to, int low, int high) {
        if (from == NONE) {
            now.answers.count = 0;
            return 0;
        }
        if (!within(from, 0, MOST_TENTH) || !within(to, from, MOST_TENTH)
                || !within(low, 0, 99) || !within(high, low, 99)) {
            return refuse(NOT_TOLD, NO_SUCH);
        }
        if (now.answers.count >= MOST_TOLD_AHEAD) {
            return refuse(ONE_TOO_MANY, NO_SUCH);
        }
        now.answers.add(to - from - high, to - from - low);
        return now.answers.count;
    }

    public int image() {
        kept.copyFrom(now);
        return now.line.tenth;
    }

    public int back() {
        now.copyFrom(kept);
        return now.line.tenth;
    }

    // ---- what stands ----

    public int fault(int what) {
        return what == 0 ? reader.fault : what == 1 ? reader.place : NONE;
    }

    public int of(int end, int what) {
        if (!isEnd(end)) {
            return NO_SUCH;
        }
        if (what >= 20) {
            int from = what - 20;
            return isEnd(from) ? now.line.delayOf(from, end) : NO_SUCH;
        }
        if (what <= 3) {
            return now.told.number(end, what);
        }
        return now.line.ends[end].number(what);
    }

    public int through(int from, int to, boolean lost) {
        if (!areTwoEnds(from, to)) {
            return NONE;
        }
        int[] row = lost ? now.line.lost : now.line.clear;
        return row[from * MOST_ENDS + to];
    }

    public int turn(int i, int what) {
        if (i == NONE) {
            return now.line.turns;
        }
        return isTurn(i) ? now.book.turnNumber(i, what) : NO_SUCH;
    }

    public int said(int i, int what) {
        if (i == NONE) {
            return now.line.yeses;
        }
        if (!within(i, 0, now.line.yeses - 1)) {
            return NO_SUCH;
        }
        if (what >= 10) {
            int end = what - 10;
            return isEnd(end) ? now.book.takenFor(i, end, now.line) : NO_SUCH;
        }
        return now.book.yesNumber(i, what);
    }

    public int misjoined() {
        int count = 0;
        for (int i = 0; i < now.line.yeses; i++) {
            if (now.book.isMisjoined(i, now.line)) {
                count++;
            }
        }
        return count;
    }

    public int refused(int reason) {
        return within(reason, 0, AS_THINGS_STAND) ? now.refusals[reason] : NONE;
    }

    public int about(int what) {
        switch (what) {
            case 0: return now.told.count;
            case 1: return now.line.tenth;
            case 2: return now.line.rule;
            case 3: return now.line.x;
            case 4: return now.texts;
            case 5: return now.ruling;
            case 6: return now.stepCount;
            case 7: return now.agreed.count;
            case 8: return now.answers.count;
            case 9: return reader.length;
            default: return NO_SUCH;
        }
    }

    // ---- what follows from it ----

    public int whose(int end, int tenth, int low, int high, int turn, boolean lower) {
        if (!isEnd(end) || !within(tenth, 0, MOST_TENTH) || !within(low, 0, MOST_BOTH_WAYS)
                || !within(high, low, MOST_BOTH_WAYS) || !isTurn(turn)) {
            return NONE;
        }
        int times = 0;
        for (int ways = low; ways <= high; ways++) {
            if (now.book.endedLast(end, tenth - ways, now.line) == turn) {
                times++;
            }
        }
        return lowestTerm(times, high - low + 1, lower);
    }

    public int first(int one, int other, int end) {
        if (!isTurn(one) || !isTurn(other) || one == other || end != NONE && !isEnd(end)) {
            return NONE;
        }
        int sawOne = now.book.beganAt(one, end, now.line);
        int sawOther = now.book.beganAt(other, end, now.line);
        if (sawOne == sawOther) {
            return NO_SUCH;
        }
        return sawOne < sawOther ? one : other;
    }

    public int cold(int one, int other, boolean knows) {
        if (!areTwoEnds(one, other)) {
            return NONE;
        }
        int spared = knows ? now.line.lag(one, other) + now.line.lag(other, one) : 0;
        int total = 0;
        for (int i = 0; i < now.line.turns; i++) {
            int gap = now.book.gapBehind(i, one, other, now.line);
            if (gap != NONE) {
                total += lawsNow().coldOf(one, Math.max(0, gap - spared), now.told, now.line);
            }
        }
        return total;
    }

    public int haste(int one, int other, boolean knows) {
        if (!areTwoEnds(one, other)) {
            return NONE;
        }
        int total = 0;
        for (int i = 0; i < now.line.turns; i++) {
            int broken = now.book.turnBrokenInto(i, one, other, now.line);
            if (broken != NONE && (!knows || now.book.couldHear(i, broken, now.line))) {
                int into = now.book.beganAt(i, other, now.line) - now.book.began[broken];
                total += lawsNow().hasteOf(one, into, now.told, now.line);
            }
        }
        return total;
    }

    public int rules(int rule, int tenths, boolean lost) {
        if (!within(rule, 0, MOST_RULE) || !within(tenths, 1, MOST_TRIAL)) {
            return NONE;
        }
        tryRule(rule, tenths);
        return total(lost ? trial.lost : trial.clear);
    }

    public int bestRule(int tenths) {
        if (!within(tenths, 1, MOST_TRIAL)) {
            return NONE;
        }
        int best = NONE;
        int bestClear = 0;
        int bestLost = 0;
        for (int rule = 0; rule <= MOST_RULE; rule++) {
            tryRule(rule, tenths);
            int clear = total(trial.clear);
            int lost = total(trial.lost);
            if (best == NONE || clear > bestClear || clear == bestClear && lost < bestLost) {
                best = rule;
                bestClear = clear;
                bestLost = lost;
            }
        }
        return best;
    }

    public int pence(int tenths) {
        if (!within(tenths, 0, MOST_TENTH)) {
            return NONE;
        }
        return now.penceFor((tenths + MINUTE - 1) / MINUTE);
    }

    public int forPence(int pence, int rule) {
        if (!within(pence, 0, MOST_PENCE) || !within(rule, 0, MOST_RULE)) {
            return NONE;
        }
        int minutes = MOST_TRIAL / MINUTE;
        while (minutes > 0 && now.penceFor(minutes) > pence) {
            minutes--;
        }
        tryRule(rule, minutes * MINUTE);
        return total(trial.clear);
    }

    public int comes(int w0, int w1, int there, int back, int length, int stops) {
        if (!within(w0, 0, MOST_WAIT) || !within(w1, 0, MOST_WAIT)
                || !arePairNumbers(there, back, length, stops)) {
            return NONE;
        }
        Pair two = pairNow();
        two.set(there, back, length, stops);
        return two.comesAt(w0, w1);
    }

    public int apart(int there, int back, int length, int stops, int i) {
        if (!arePairNumbers(there, back, length, stops) || i < NONE) {
            return NONE;
        }
        Pair two = pairNow();
        two.set(there, back, length, stops);
        two.findApart();
        if (i == NONE) {
            return two.apartCount;
        }
        return i < two.apartCount ? two.apartRow[i] : NONE;
    }

    public int drawn(int there, int back, int s0, int s1, boolean low) {
        if (!areDelays(there, back) || !within(s0, 0, MOST_SPREAD) || !within(s1, 0, MOST_SPREAD)) {
            return NONE;
        }
        return lowestTerm(apartDraws(there, back, s0, s1), (s0 + 1) * (s1 + 1), low);
    }

    public int wide(int there, int back) {
        if (!areDelays(there, back)) {
            return NONE;
        }
        int best = NONE;
        long bestUpper = 0;
        long bestLower = 1;
        for (int s = 0; s <= MOST_SPREAD; s++) {
            long lower = apartDraws(there, back, s, s);
            long upper = (long) (s + there + back) * (s + 1) * (s + 1);
            if (lower > 0 && (best == NONE || upper * bestLower < bestUpper * lower)) {
                best = s;
                bestUpper = upper;
                bestLower = lower;
            }
        }
        return best;
    }

    public int worth(int length, int wait, int delay, int k, boolean low) {
        if (!within(length, 1, MOST_LONG) || !within(wait, 0, 99) || !within(delay, 0, 99)
                || !within(k, 0, 10)) {
            return NONE;
        }
        return lowestTerm(k * wait, 10 * (length + wait + delay), low);
    }

    public int least(int saves) {
        return within(saves, 0, 999) ? now.agreed.leastSet(saves) : NONE;
    }

    public int span(boolean most) {
        int low = now.answers.leastWays();
        int high = now.answers.mostWays();
        if (low > high) {
            return NONE;
        }
        return most ? high : low;
    }

    public int way(int one, int other, int later) {
        if (!areTwoEnds(one, other) || !within(later, 0, 99)) {
            return NONE;
        }
        return whoYields(one, other, later);
    }

    // ---- helpers ----

    private static boolean within(int value, int low, int high) {
        return low <= value && value <= high;
    }

    private boolean isEnd(int end) {
        return within(end, 0, now.told.count - 1);
    }

    private boolean areTwoEnds(int one, int other) {
        return isEnd(one) && isEnd(other) && one != other;
    }

    private boolean isTurn(int i) {
        return within(i, 0, now.line.turns - 1);
    }

    private static boolean areDelays(int there, int back) {
        return within(there, 0, MOST_DELAY) && within(back, 0, MOST_DELAY);
    }

    private static boolean arePairNumbers(int there, int back, int length, int stops) {
        return areDelays(there, back) && within(length, 1, MOST_LONG) && within(stops, 0, MOST_STOPS);
    }

    private int refuse(int reason, int answer) {
        now.refusals[reason]++;
        return answer;
    }

    private boolean refuseFlatly(int reason) {
        now.refusals[reason]++;
        return false;
    }

    private Pair pairNow() {
        if (pair == null) {
            pair = new Pair();
        }
        return pair;
    }

    private Laws lawsNow() {
        laws.text = now.ruling == NONE ? null : texts[now.ruling];
        return laws;
    }

    private void tryRule(int rule, int tenths) {
        trial.copyFrom(now.line);
        trial.rule = rule;
        trial.forgetCounts();
        trial.pass(tenths, now.told, lawsNow(), blank);
    }

    private static int total(int[] row) {
        int sum = 0;
        for (int count : row) {
            sum += count;
        }
        return sum;
    }

    /** Of all draws 0 .. s0 and 0 .. s1, those of which the first is HEARD ahead of the other. */
    private static int apartDraws(int there, int back, int s0, int s1) {
        int count = 0;
        for (int a = 0; a <= s0; a++) {
            for (int b = 0; b <= s1; b++) {
                if (a + 1 + there <= b || b + 1 + back <= a) {
                    count++;
                }
            }
        }
        return count;
    }

    /** One TURN begins in TENTH 0 and one later, whatever is HEARD: bits of those that end YIELDED. */
    private int whoYields(int one, int other, int later) {
        int lagThere = now.line.lag(one, other);
        int lagBack = now.line.lag(other, one);
        int endedOne = NONE;
        int endedOther = NONE;
        int pressedOne = 0;
        int pressedOther = 0;
        int bits = 0;
        for (int tenth = 1; tenth <= later + MOST_LONG && (endedOne == NONE || endedOther == NONE); tenth++) {
            boolean oneHears = isSpokenIn(tenth - lagBack, later, endedOther);
            boolean otherHears = isSpokenIn(tenth - lagThere, 0, endedOne);
            pressedOne = oneHears ? pressedOne + 1 : 0;
            pressedOther = otherHears && tenth > later ? pressedOther + 1 : 0;
            if (endedOne == NONE) {
                boolean yields = pressedOne > 0 && pressedOne == now.told.stops[one];
                bits |= yields ? 1 : 0;
                endedOne = yields || tenth >= now.told.length[one] ? tenth : NONE;
            }
            if (endedOther == NONE) {
                boolean yields = pressedOther > 0 && pressedOther == now.told.stops[other];
                bits |= yields ? 2 : 0;
                endedOther = yields || tenth >= later + now.told.length[other] ? tenth : NONE;
            }
        }
        return bits;
    }

    private static boolean isSpokenIn(int tenth, int began, int ended) {
        return tenth >= began && (ended == NONE || tenth < ended);
    }

    private static int lowestTerm(int upper, int lower, boolean lowerAsked) {
        int a = upper;
        int b = lower;
        for (int i = 0; i < 64 && b != 0; i++) {
            int rest = a % b;
            a = b;
            b = rest;
        }
        if (a == 0) {
            return 0;
        }
        return (lowerAsked ? lower : upper) / a;
    }

    /** All that an image keeps. */
    private static final class State {
        final Told told = new Told();
        final Line line = new Line();
        final Book book = new Book(MOST_TURNS, MOST_YESES);
        final Line[] steps = new Line[MOST_STEPS];
        int stepCount;
        int nextStep;
        int texts;
        int ruling = NONE;
        final int[] refusals = new int[3];
        int pricedFirst;
        int pricedBehind;
        int pricedMinutes;
        final Agreed agreed = new Agreed();
        final Answers answers = new Answers();

        void copyFrom(State other) {
            told.copyFrom(other.told);
            line.copyFrom(other.line);
            book.copyFrom(other.book, other.line);
            for (int i = 0; i < MOST_STEPS; i++) {
                if (other.steps[i] != null) {
                    stepRow(i).copyFrom(other.steps[i]);
                }
            }
            stepCount = other.stepCount;
            nextStep = other.nextStep;
            texts = other.texts;
            ruling = other.ruling;
            for (int i = 0; i < refusals.length; i++) {
                refusals[i] = other.refusals[i];
            }
            pricedFirst = other.pricedFirst;
            pricedBehind = other.pricedBehind;
            pricedMinutes = other.pricedMinutes;
            agreed.copyFrom(other.agreed);
            answers.copyFrom(other.answers);
        }

        /** Rows are made when they are first needed and used again. */
        private Line stepRow(int i) {
            if (steps[i] == null) {
                steps[i] = new Line();
            }
            return steps[i];
        }

        /** Called ahead of each STEP: the oldest of 30 gives its row to the newest. */
        void keepStep() {
            stepRow(nextStep).copyFrom(line);
            nextStep = (nextStep + 1) % MOST_STEPS;
            stepCount = Math.min(stepCount + 1, MOST_STEPS);
        }

        void takeStepBack() {
            nextStep = (nextStep + MOST_STEPS - 1) % MOST_STEPS;
            stepCount--;
            line.copyFrom(stepRow(nextStep));
            // TURNS that have ended never change, so just those that went on then are mended.
            for (int e = 0; e < MOST_ENDS; e++) {
                if (line.ends[e].speaking) {
                    book.reopen(line.ends[e].turn);
                }
            }
        }

        int penceFor(int minutes) {
            int early = Math.min(minutes, pricedMinutes);
            return early * pricedFirst + (minutes - early) * pricedBehind;
        }
    }

    /** What was told of the ENDS; no STEP takes it back. */
    private static final class Told {
        final int[] wait = new int[MOST_ENDS];
        final int[] spread = new int[MOST_ENDS];
        final int[] stops = new int[MOST_ENDS];
        final int[] length = new int[MOST_ENDS];
        int count;

        int add(int newWait, int newSpread, int newStops, int newLength) {
            int end = count;
            wait[end] = newWait;
            spread[end] = newSpread;
            stops[end] = newStops;
            length[end] = newLength;
            count++;
            return end;
        }

        int number(int end, int what) {
            switch (what) {
                case 0: return wait[end];
                case 1: return spread[end];
                case 2: return stops[end];
                case 3: return length[end];
                default: return NO_SUCH;
            }
        }

        void copyFrom(Told other) {
            count = other.count;
            for (int e = 0; e < count; e++) {
                wait[e] = other.wait[e];
                spread[e] = other.spread[e];
                stops[e] = other.stops[e];
                length[e] = other.length[e];
            }
        }
    }

    /** How an END stands in the TENTH now. */
    private static final class End {
        boolean speaking;
        int quiet;
        int patience;
        int pressed;
        /** Bits of the ENDS that it HEARS in this TENTH. */
        int hears;
        int heardLast = NONE;
        int heardTenth = NONE;
        /** Its latest TURN, how LONG that is and how many of its TENTHS are spoken. */
        int turn = NONE;
        int length;
        int spoken;
        int turns;
        int cut;
        /** ENDED of the latest TURN of which a TENTH was spoken. */
        int lastEnded = NONE;
        /** Bit k: whether it spoke k TENTHS ago; a DELAY is 60 at most, so 64 of them do. */
        long past;

        void copyFrom(End other) {
            speaking = other.speaking;
            quiet = other.quiet;
            patience = other.patience;
            pressed = other.pressed;
            hears = other.hears;
            heardLast = other.heardLast;
            heardTenth = other.heardTenth;
            turn = other.turn;
            length = other.length;
            spoken = other.spoken;
            turns = other.turns;
            cut = other.cut;
            lastEnded = other.lastEnded;
            past = other.past;
        }

        int number(int what) {
            switch (what) {
                case 4: return speaking ? 1 : 0;
                case 5: return quiet;
                case 6: return patience;
                case 7: return pressed;
                case 8: return heardLast;
                case 9: return turns;
                case 10: return cut;
                default: return NO_SUCH;
            }
        }

        boolean spokeAgo(int tenths) {
            return (past >>> tenths & 1L) != 0;
        }

        boolean wasCalled() {
            return heardTenth != NONE && (lastEnded == NONE || heardTenth >= lastEnded);
        }
    }

    /** The line as it stands in the TENTH now; a STEP keeps one whole. */
    private static final class Line {
        int tenth;
        int rule;
        int x = FIRST_X;
        int turns;
        int yeses;
        /** Of each END to each: from * MOST_ENDS + to. */
        final int[] delays = new int[MOST_ENDS * MOST_ENDS];
        final int[] clear = new int[MOST_ENDS * MOST_ENDS];
        final int[] lost = new int[MOST_ENDS * MOST_ENDS];
        final End[] ends = new End[MOST_ENDS];

        Line() {
            for (int e = 0; e < MOST_ENDS; e++) {
                ends[e] = new End();
            }
        }

        void copyFrom(Line other) {
            tenth = other.tenth;
            rule = other.rule;
            x = other.x;
            turns = other.turns;
            yeses = other.yeses;
            for (int i = 0; i < delays.length; i++) {
                delays[i] = other.delays[i];
                clear[i] = other.clear[i];
                lost[i] = other.lost[i];
            }
            for (int e = 0; e < MOST_ENDS; e++) {
                ends[e].copyFrom(other.ends[e]);
            }
        }

        void forgetCounts() {
            for (int i = 0; i < clear.length; i++) {
                clear[i] = 0;
                lost[i] = 0;
            }
        }

        int delayOf(int from, int to) {
            return delays[from * MOST_ENDS + to];
        }

        /** How many TENTHS later one HEARS what the other speaks. */
        int lag(int from, int to) {
            return 1 + delayOf(from, to);
        }

        /** So many TENTHS go by: how many TURNS began in them. */
        int pass(int tenths, Told told, Laws laws, Book book) {
            int before = turns;
            for (int i = 0; i < tenths; i++) {
                tenth++;
                for (int e = 0; e < told.count; e++) {
                    listen(e, told.count);
                }
                for (int e = 0; e < told.count; e++) {
                    if (ends[e].speaking) {
                        speakOn(e, told, laws, book);
                    }
                    // no else: whose TURN has just ended is SILENT in the same TENTH
                    if (!ends[e].speaking) {
                        keepSilence(e, told, laws, book);
                    }
                }
                for (int e = 0; e < told.count; e++) {
                    countHeard(e, told.count);
                    ends[e].past = ends[e].past << 1 | (ends[e].speaking ? 1L : 0L);
                }
            }
            return turns - before;
        }

        private void listen(int e, int count) {
            int hears = 0;
            int lowest = NONE;
            for (int from = count - 1; from >= 0; from--) {
                if (from != e && ends[from].spokeAgo(delayOf(from, e))) {
                    hears |= 1 << from;
                    lowest = from;
                }
            }
            ends[e].hears = hears;
            if (hears != 0) {
                ends[e].heardLast = lowest;
                ends[e].heardTenth = tenth;
            }
        }

        private void speakOn(int e, Told told, Laws laws, Book book) {
            End end = ends[e];
            end.pressed = end.hears != 0 ? end.pressed + 1 : 0;
            if (end.pressed > 0 && end.pressed == laws.ofEnd(Reader.STOPS, e, told, this)) {
                closeTurn(e, tenth, YIELDED, book);
            } else if (end.spoken >= end.length) {
                closeTurn(e, tenth, SAID, book);
            } else {
                end.spoken++;
            }
        }

        private void keepSilence(int e, Told told, Laws laws, Book book) {
            End end = ends[e];
            if (end.hears != 0) {
                end.quiet = 0;
                return;
            }
            if (end.quiet == 0) {
                int wait = laws.ofEnd(Reader.WAIT, e, told, this);
                end.patience = findPatience(e, wait, told);
            }
            boolean begins = end.quiet + 1 > end.patience;
            if (begins && book.isFull(turns)) {
                return;
            }
            end.quiet++;
            if (begins) {
                openTurn(e, tenth, laws.ofEnd(Reader.LONG, e, told, this), book);
                end.spoken = 1;
            }
        }

        private int findPatience(int e, int wait, Told told) {
            int plain = told.spread[e] > 0 ? wait + draw(told.spread[e] + 1) : wait;
            switch (rule) {
                case 1: return plain + 10 * e;
                case 2: return e == 0 || ends[e].wasCalled() ? plain : NEVER_CALLED;
                case 3: return isNextTo(ends[e].heardLast, e, told.count) ? 0 : 3 * plain;
                default: return plain;
            }
        }

        private int draw(int m) {
            int drawn = m > 0 ? x % m : 0;
            x = (x * 197 + 113) % 30091;
            return drawn;
        }

        private static boolean isNextTo(int heard, int e, int count) {
            return heard != NONE && e == (heard + 1 < count ? heard + 1 : 0);
        }

        private void countHeard(int e, int count) {
            int hears = ends[e].hears;
            boolean alone = (hears & hears - 1) == 0;
            int[] row = alone && !ends[e].speaking ? clear : lost;
            for (int from = 0; hears != 0 && from < count; from++) {
                if ((hears >> from & 1) != 0) {
                    row[from * MOST_ENDS + e]++;
                }
            }
        }

        void openTurn(int e, int began, int length, Book book) {
            End end = ends[e];
            end.speaking = true;
            end.pressed = 0;
            end.turn = turns;
            end.length = length;
            end.spoken = 0;
            end.turns++;
            book.openTurn(turns, e, began, length);
            turns++;
        }

        void closeTurn(int e, int ended, int kind, Book book) {
            End end = ends[e];
            end.speaking = false;
            end.quiet = 0;
            if (end.spoken > 0) {
                end.lastEnded = ended;
            }
            if (kind == YIELDED) {
                end.cut++;
            }
            book.closeTurn(end.turn, ended, kind);
        }
    }

    /** The TURNS and YESES; the Line tells how many of the rows there are. */
    private static final class Book {
        final int[] ender;
        final int[] began;
        final int[] length;
        final int[] ended;
        final int[] kind;
        final int[] yesEnd;
        final int[] yesTenth;
        final int[] yesMeant;

        /** A book without rows keeps nothing and is never full: for trials, which 90 TURNS don't bound. */
        Book(int turns, int yeses) {
            ender = new int[turns];
            began = new int[turns];
            length = new int[turns];
            ended = new int[turns];
            kind = new int[turns];
            yesEnd = new int[yeses];
            yesTenth = new int[yeses];
            yesMeant = new int[yeses];
        }

        void copyFrom(Book other, Line line) {
            for (int i = 0; i < line.turns; i++) {
                ender[i] = other.ender[i];
                began[i] = other.began[i];
                length[i] = other.length[i];
                ended[i] = other.ended[i];
                kind[i] = other.kind[i];
            }
            for (int i = 0; i < line.yeses; i++) {
                yesEnd[i] = other.yesEnd[i];
                yesTenth[i] = other.yesTenth[i];
                yesMeant[i] = other.yesMeant[i];
            }
        }

        boolean isFull(int turns) {
            return ended.length > 0 && turns >= ended.length;
        }

        private boolean hasRow(int i) {
            return 0 <= i && i < ended.length;
        }

        void openTurn(int i, int end, int beganIn, int toldLength) {
            if (hasRow(i)) {
                ender[i] = end;
                began[i] = beganIn;
                length[i] = toldLength;
                ended[i] = NONE;
                kind[i] = 0;
            }
        }

        void closeTurn(int i, int endedIn, int newKind) {
            if (hasRow(i)) {
                ended[i] = endedIn;
                kind[i] = newKind;
            }
        }

        void reopen(int i) {
            closeTurn(i, NONE, 0);
        }

        int turnNumber(int i, int what) {
            switch (what) {
                case 0: return ender[i];
                case 1: return began[i];
                case 2: return length[i];
                case 3: return ended[i];
                case 4: return kind[i];
                default: return NO_SUCH;
            }
        }

        int yesNumber(int i, int what) {
            switch (what) {
                case 0: return yesEnd[i];
                case 1: return yesTenth[i];
                case 2: return yesMeant[i];
                default: return NO_SUCH;
            }
        }

        /** Whether a TURN is of that END and not one that ended ahead of its first TENTH. */
        private boolean isSpokenBy(int i, int end) {
            return ender[i] == end && ended[i] != began[i];
        }

        int addYes(int end, Line line) {
            int i = line.yeses;
            if (i >= yesEnd.length) {
                return NO_SUCH;
            }
            yesEnd[i] = end;
            yesTenth[i] = line.tenth;
            yesMeant[i] = heardOutLast(end, line);
            line.yeses++;
            return yesMeant[i];
        }

        private int heardOutLast(int end, Line line) {
            int best = NONE;
            int latest = NONE;
            for (int i = 0; i < line.turns; i++) {
                if (ender[i] != end && isSpokenBy(i, ender[i]) && ended[i] != NONE) {
                    int heardOut = ended[i] + line.lag(ender[i], end);
                    if (heardOut <= line.tenth && heardOut > latest) {
                        best = i;
                        latest = heardOut;
                    }
                }
            }
            return best;
        }

        private int yesHeardIn(int yes, int end, Line line) {
            return yesTenth[yes] + line.lag(yesEnd[yes], end);
        }

        int takenFor(int yes, int end, Line line) {
            if (yesEnd[yes] == end) {
                return NONE;
            }
            int heardIn = yesHeardIn(yes, end, line);
            int best = NONE;
            for (int i = 0; i < line.turns; i++) {
                // an END's TURNS stand in the order in which they BEGAN, so the last one fits best
                if (isSpokenBy(i, end) && began[i] <= line.tenth && began[i] < heardIn) {
                    best = i;
                }
            }
            return best;
        }

        boolean isMisjoined(int yes, Line line) {
            int meant = yesMeant[yes];
            if (!hasRow(meant)) {
                return false;
            }
            int end = ender[meant];
            return yesHeardIn(yes, end, line) <= line.tenth && takenFor(yes, end, line) != meant;
        }

        /** The TURN of an END that ENDED last, no later than a TENTH. */
        int endedLast(int end, int tenth, Line line) {
            int best = NONE;
            for (int i = 0; i < line.turns; i++) {
                if (isSpokenBy(i, end) && ended[i] != NONE && ended[i] <= tenth
                        && (best == NONE || ended[i] > ended[best])) {
                    best = i;
                }
            }
            return best;
        }

        /** When a TURN BEGAN as an END saw it, or by THE CLOCK. */
        int beganAt(int i, int end, Line line) {
            return end == NONE || end == ender[i] ? began[i] : began[i] + line.lag(ender[i], end);
        }

        /** From a TURN that the other has SAID to when it HEARS the one begin; NONE: no such gap. */
        int gapBehind(int i, int one, int other, Line line) {
            if (ender[i] != other || kind[i] != SAID) {
                return NONE;
            }
            int heardIn = NONE;
            for (int j = line.turns - 1; j >= 0; j--) {
                int begins = beganAt(j, other, line);
                if (isSpokenBy(j, one) && begins >= ended[i] && begins <= line.tenth) {
                    heardIn = begins;
                }
            }
            if (heardIn == NONE || beganWithin(other, ended[i], heardIn, line)) {
                return NONE;
            }
            return heardIn - ended[i];
        }

        private boolean beganWithin(int end, int low, int high, Line line) {
            for (int i = 0; i < line.turns; i++) {
                if (isSpokenBy(i, end) && began[i] >= low && began[i] <= high) {
                    return true;
                }
            }
            return false;
        }

        /** The other's TURN in which it HEARS this TURN of the one begin; NONE: in none. */
        int turnBrokenInto(int i, int one, int other, Line line) {
            int heardIn = beganAt(i, other, line);
            if (!isSpokenBy(i, one) || heardIn > line.tenth) {
                return NONE;
            }
            for (int j = 0; j < line.turns; j++) {
                if (isSpokenBy(j, other) && began[j] <= heardIn
                        && (ended[j] == NONE || ended[j] > heardIn)) {
                    return j;
                }
            }
            return NONE;
        }

        /** Whether a TURN BEGAN later than its END could HEAR the other TURN. */
        boolean couldHear(int i, int other, Line line) {
            return began[i] > beganAt(other, ender[i], line);
        }
    }

    /** A TEXT as it was read: its CLAUSES, and its laws as code for a stack. */
    private static final class Text {
        final int[] kind = new int[MOST_CLAUSES];
        final int[] one = new int[MOST_CLAUSES];
        final int[] two = new int[MOST_CLAUSES];
        final int[] three = new int[MOST_CLAUSES];
        int clauses;
        /** Where each law's code begins (NONE: there is no such law) and ends. */
        final int[] lawFrom = new int[Reader.LAWS];
        final int[] lawTo = new int[Reader.LAWS];
        /** Each TOKEN makes one word at most: so as many as bytes do. */
        final int[] code = new int[MOST_BYTES];
        int codeLength;

        void empty() {
            clauses = 0;
            codeLength = 0;
            for (int law = 0; law < Reader.LAWS; law++) {
                lawFrom[law] = NONE;
                lawTo[law] = NONE;
            }
        }

        void addClause(int newKind) {
            if (clauses < MOST_CLAUSES) {
                kind[clauses] = newKind;
                one[clauses] = 0;
                two[clauses] = 0;
                three[clauses] = 0;
                clauses++;
            }
        }

        void setNumbers(int a, int b, int c) {
            if (clauses > 0) {
                one[clauses - 1] = a;
                two[clauses - 1] = b;
                three[clauses - 1] = c;
            }
        }

        /** One more word of code: where it stands. */
        int emit(int op, int argument) {
            if (codeLength < code.length) {
                code[codeLength] = argument * Laws.OPS + op;
                codeLength++;
            }
            return codeLength - 1;
        }

        /** Lets a jump that was emitted lead to what comes next. */
        void landHere(int jump) {
            if (jump >= 0 && jump < codeLength) {
                code[jump] = codeLength * Laws.OPS + code[jump] % Laws.OPS;
            }
        }
    }

    /** The tape, and how a TEXT is read from it; the latest FAULT. */
    private static final class Reader {
        static final int WAIT = 0;
        static final int STOPS = 1;
        static final int LONG = 2;
        static final int COLD = 3;
        static final int HASTE = 4;
        static final int LAWS = 5;
        static final int SPEAK = 5;
        static final int HUSH = 6;
        static final int YES = 7;
        static final int GO = 8;
        static final int DELAY = 9;
        static final int RULE = 10;

        private static final int FOR = 11;
        private static final int TO = 12;
        private static final int BY = 13;
        private static final int IF = 14;
        private static final int THEN = 15;
        private static final int ELSE = 16;
        private static final int CLOSE = 17;
        private static final int OR = 18;
        private static final int AND = 19;
        private static final int NOT = 20;
        private static final int FIRST_NAME = 21;
        private static final int WORD_COUNT = 32;
        /** All words in the order of their numbers, each with a blank ahead and behind. */
        private static final String WORDS = " wait stops long cold haste speak hush yes go delay rule for to by if then else end or and not who ends ruled turns cut waits spread stop length gap into ";
        private static final String SIGNS = "<>=#+-*/();";
        /** Added to the sign, if a = makes it one TOKEN of two bytes. */
        private static final int WITH_EQUAL = 256;

        private static final int AT_END = 0;
        private static final int NO_TOKEN = 1;
        private static final int NUMBER = 2;
        private static final int WORD = 3;
        private static final int SIGN = 4;

        private static final int CANT_STAND = 1;
        private static final int NO_SUCH_NUMBER = 2;
        private static final int TOO_DEEP = 3;
        private static final int SECOND_TIME = 4;
        private static final int NOT_OF_CLAUSE = 5;
        private static final int TOO_MANY = 6;

        final int[] tape = new int[MOST_BYTES];
        int length;
        int fault = NONE;
        int place = NONE;
        private Text text;
        private int law;
        /** All TOKENS of the tape and its end: kind, what it is, first byte. */
        private final int[] kinds = new int[MOST_BYTES + 1];
        private final int[] values = new int[MOST_BYTES + 1];
        private final int[] starts = new int[MOST_BYTES + 1];
        private int tokens;
        /** The TOKEN that is come to. */
        private int kind;
        private int value;
        private int start;
        private int next;

        /** Four bytes more on the tape, if they have room. */
        void take(int bytes) {
            for (int shift = 24; shift >= 0 && length < MOST_BYTES; shift -= 8) {
                tape[length] = bytes >>> shift & 255;
                length++;
            }
        }

        /** Reads the tape, which is empty then. */
        void readInto(Text target) {
            text = target;
            text.empty();
            fault = 0;
            place = NONE;
            splitTape();
            next = 0;
            come();
            for (int i = 0; i <= MOST_CLAUSES && kind != AT_END; i++) {
                readClause();
            }
            length = 0;
        }

        private void splitTape() {
            tokens = 0;
            int from = 0;
            for (int i = 0; i < MOST_BYTES && from < length; i++) {
                int sign = tape[from];
                if (isDigit(sign)) {
                    from = splitNumber(from);
                } else if (isLetter(sign)) {
                    from = splitWord(from);
                } else if (sign == ' ' || sign == 10) {
                    from++;
                } else {
                    from = splitSign(from);
                }
            }
            addToken(AT_END, 0, length);
        }

        private int splitNumber(int from) {
            int number = 0;
            int to = from;
            while (to < length && isDigit(tape[to])) {
                number = Math.min(MOST_NUMBER + 1, number * 10 + tape[to] - '0');
                to++;
            }
            addToken(NUMBER, number, from);
            return to;
        }

        private int splitWord(int from) {
            int to = from;
            while (to < length && isLetter(tape[to])) {
                to++;
            }
            addToken(WORD, numberOfWord(from, to), from);
            return to;
        }

        /** WORD_COUNT, if it is none of them. */
        private int numberOfWord(int from, int to) {
            int word = 0;
            for (int i = 0; i + 1 < WORDS.length(); i++) {
                if (WORDS.charAt(i) == ' ') {
                    if (isSpeltAt(i + 1, from, to)) {
                        return word;
                    }
                    word++;
                }
            }
            return WORD_COUNT;
        }

        private boolean isSpeltAt(int letters, int from, int to) {
            int behind = letters + to - from;
            if (behind >= WORDS.length() || WORDS.charAt(behind) != ' ') {
                return false;
            }
            for (int i = from; i < to; i++) {
                if (tape[i] != WORDS.charAt(letters + i - from)) {
                    return false;
                }
            }
            return true;
        }

        private int splitSign(int from) {
            int sign = tape[from];
            if ((sign == '<' || sign == '>') && from + 1 < length && tape[from + 1] == '=') {
                addToken(SIGN, sign + WITH_EQUAL, from);
                return from + 2;
            }
            addToken(SIGNS.indexOf((char) sign) >= 0 ? SIGN : NO_TOKEN, sign, from);
            return from + 1;
        }

        private void addToken(int newKind, int newValue, int from) {
            if (tokens < kinds.length) {
                kinds[tokens] = newKind;
                values[tokens] = newValue;
                starts[tokens] = from;
                tokens++;
            }
        }

        private static boolean isDigit(int sign) {
            return '0' <= sign && sign <= '9';
        }

        private static boolean isLetter(int sign) {
            return 'a' <= sign && sign <= 'z' || 'A' <= sign && sign <= 'Z';
        }

        /** Comes to the next TOKEN; behind a FAULT none is come to. */
        private void come() {
            if (fault == 0 && next < tokens) {
                kind = kinds[next];
                value = values[next];
                start = starts[next];
                next++;
            }
        }

        /** The first FAULT stays; no TOKEN fits any longer, so all that is open ends by itself. */
        private void fail(int newFault) {
            if (fault == 0) {
                fault = newFault;
                place = start;
            }
            kind = NO_TOKEN;
        }

        private void readClause() {
            if (kind != WORD || value > RULE) {
                fail(CANT_STAND);
            } else if (value < LAWS && text.lawFrom[value] != NONE) {
                fail(SECOND_TIME);
            } else if (text.clauses >= MOST_CLAUSES) {
                fail(TOO_MANY);
            } else {
                int word = value;
                text.addClause(word);
                come();
                if (word < LAWS) {
                    law = word;
                    text.lawFrom[word] = text.codeLength;
                    readSum(0);
                    text.lawTo[word] = text.codeLength;
                } else {
                    readAct(word);
                }
                expectSign(';');
            }
        }

        private void readAct(int word) {
            int b = 0;
            int c = 0;
            int most = word == GO ? MOST_GO : word == RULE ? MOST_RULE : MOST_ENDS - 1;
            int a = expectNumber(word == GO ? 1 : 0, most);
            if (word == SPEAK) {
                expectWord(FOR);
                b = expectNumber(1, MOST_LONG);
            } else if (word == DELAY) {
                expectWord(TO);
                b = expectNumber(0, MOST_ENDS - 1);
                expectWord(BY);
                c = expectNumber(0, MOST_DELAY);
            }
            text.setNumbers(a, b, c);
        }

        private void readSum(int open) {
            readProduct(open);
            for (int i = 0; i < MOST_BYTES && (isSign('+') || isSign('-')); i++) {
                int op = isSign('+') ? Laws.ADD : Laws.TAKE;
                come();
                readProduct(open);
                text.emit(op, 0);
            }
        }

        private void readProduct(int open) {
            readOne(open);
            for (int i = 0; i < MOST_BYTES && (isSign('*') || isSign('/')); i++) {
                int op = isSign('*') ? Laws.TIMES : Laws.DIVIDE;
                come();
                readOne(open);
                text.emit(op, 0);
            }
        }

        private void readOne(int open) {
            if (kind == NUMBER) {
                text.emit(Laws.PUT, expectNumber(0, MOST_NUMBER));
            } else if (isSign('(')) {
                if (mayOpen(open)) {
                    come();
                    readSum(open + 1);
                    expectSign(')');
                }
            } else if (isSign('-')) {
                if (mayOpen(open)) {
                    come();
                    readOne(open + 1);
                    text.emit(Laws.NEGATE, 0);
                }
            } else if (isWord(IF)) {
                if (mayOpen(open)) {
                    come();
                    readChoice(open + 1);
                }
            } else {
                readName();
            }
        }

        private void readName() {
            if (kind != WORD || value < FIRST_NAME || value >= WORD_COUNT) {
                fail(CANT_STAND);
            } else if (!isOfClause(value - FIRST_NAME)) {
                fail(NOT_OF_CLAUSE);
            } else {
                text.emit(Laws.NAME, value - FIRST_NAME);
                come();
            }
        }

        private boolean isOfClause(int name) {
            if (name == Laws.GAP) {
                return law == COLD;
            }
            if (name == Laws.INTO) {
                return law == HASTE;
            }
            return name < Laws.TURNS || law == WAIT || law == STOPS || law == LONG;
        }

        private void readChoice(int open) {
            readEither(open);
            expectWord(THEN);
            int toElse = text.emit(Laws.JUMP_UNLESS, 0);
            readSum(open);
            expectWord(ELSE);
            int toEnd = text.emit(Laws.JUMP, 0);
            text.landHere(toElse);
            readSum(open);
            expectWord(CLOSE);
            text.landHere(toEnd);
        }

        private void readEither(int open) {
            readBoth(open);
            for (int i = 0; i < MOST_BYTES && isWord(OR); i++) {
                come();
                readBoth(open);
                text.emit(Laws.OR, 0);
            }
        }

        private void readBoth(int open) {
            readAsk(open);
            for (int i = 0; i < MOST_BYTES && isWord(AND); i++) {
                come();
                readAsk(open);
                text.emit(Laws.AND, 0);
            }
        }

        private void readAsk(int open) {
            if (isWord(NOT)) {
                if (mayOpen(open)) {
                    come();
                    readAsk(open + 1);
                    text.emit(Laws.NOT, 0);
                }
                return;
            }
            readSum(open);
            int op = comparison();
            if (op == NONE) {
                fail(CANT_STAND);
                return;
            }
            come();
            readSum(open);
            text.emit(op, 0);
        }

        private int comparison() {
            if (kind != SIGN) {
                return NONE;
            }
            switch (value) {
                case '<': return Laws.LESS;
                case '<' + WITH_EQUAL: return Laws.AT_MOST;
                case '>': return Laws.MORE;
                case '>' + WITH_EQUAL: return Laws.AT_LEAST;
                case '=': return Laws.LIKE;
                case '#': return Laws.UNLIKE;
                default: return NONE;
            }
        }

        private boolean mayOpen(int open) {
            if (open >= MOST_OPEN) {
                fail(TOO_DEEP);
                return false;
            }
            return true;
        }

        private boolean isSign(int sign) {
            return kind == SIGN && value == sign;
        }

        private boolean isWord(int word) {
            return kind == WORD && value == word;
        }

        private void expectSign(int sign) {
            if (isSign(sign)) {
                come();
            } else {
                fail(CANT_STAND);
            }
        }

        private void expectWord(int word) {
            if (isWord(word)) {
                come();
            } else {
                fail(CANT_STAND);
            }
        }

        private int expectNumber(int low, int high) {
            if (kind != NUMBER) {
                fail(CANT_STAND);
                return 0;
            }
            if (!within(value, low, high)) {
                fail(NO_SUCH_NUMBER);
                return 0;
            }
            int number = value;
            come();
            return number;
        }
    }

    /** What the laws of THE TEXT say, or what was told where there is none. */
    private static final class Laws {
        static final int PUT = 0;
        static final int NAME = 1;
        static final int JUMP = 2;
        static final int JUMP_UNLESS = 3;
        static final int NEGATE = 4;
        static final int NOT = 5;
        static final int ADD = 6;
        static final int TAKE = 7;
        static final int TIMES = 8;
        static final int DIVIDE = 9;
        static final int LESS = 10;
        static final int AT_MOST = 11;
        static final int MORE = 12;
        static final int AT_LEAST = 13;
        static final int LIKE = 14;
        static final int UNLIKE = 15;
        static final int AND = 16;
        static final int OR = 17;
        static final int OPS = 32;

        static final int WHO = 0;
        static final int ENDS = 1;
        static final int RULED = 2;
        static final int TURNS = 3;
        static final int CUT = 4;
        static final int WAITS = 5;
        static final int SPREAD = 6;
        static final int STOP = 7;
        static final int LENGTH = 8;
        static final int GAP = 9;
        static final int INTO = 10;
        static final int NAMES = 11;

        private static final int[] LEAST_OF_LAW = {0, 0, 1, 0, 0};
        private static final int[] MOST_OF_LAW = {999, 99, 99, 9999, 9999};
        /** 8 that are open hold no more than 6 values each. */
        private static final int MOST_STACKED = 64;

        Text text;
        private final int[] names = new int[NAMES];
        private final int[] stack = new int[MOST_STACKED];
        private int top;

        private boolean has(int law) {
            return text != null && text.lawFrom[law] != NONE;
        }

        /** wait, stops or long of an END. */
        int ofEnd(int law, int e, Told told, Line line) {
            if (has(law)) {
                nameAll(e, told, line);
                names[TURNS] = line.ends[e].turns;
                names[CUT] = line.ends[e].cut;
                names[WAITS] = told.wait[e];
                names[SPREAD] = told.spread[e];
                names[STOP] = told.stops[e];
                names[LENGTH] = told.length[e];
                return valueOf(law);
            }
            return law == Reader.WAIT ? told.wait[e] : law == Reader.STOPS ? told.stops[e] : told.length[e];
        }

        int coldOf(int e, int gap, Told told, Line line) {
            if (has(Reader.COLD)) {
                nameAll(e, told, line);
                names[GAP] = gap;
                return valueOf(Reader.COLD);
            }
            return gap;
        }

        int hasteOf(int e, int into, Told told, Line line) {
            if (has(Reader.HASTE)) {
                nameAll(e, told, line);
                names[INTO] = into;
                return valueOf(Reader.HASTE);
            }
            return 1;
        }

        private void nameAll(int e, Told told, Line line) {
            names[WHO] = e;
            names[ENDS] = told.count;
            names[RULED] = line.rule;
        }

        private int valueOf(int law) {
            top = 0;
            int to = Math.min(text.lawTo[law], text.code.length);
            // jumps lead on alone, so each word is come to once at most
            for (int at = text.lawFrom[law]; at < to; at++) {
                int op = text.code[at] % OPS;
                int argument = text.code[at] / OPS;
                switch (op) {
                    case PUT:
                        push(argument);
                        break;
                    case NAME:
                        push(argument < NAMES ? names[argument] : 0);
                        break;
                    case JUMP:
                        at = Math.max(at, argument - 1);
                        break;
                    case JUMP_UNLESS:
                        at = pop() == 0 ? Math.max(at, argument - 1) : at;
                        break;
                    case NEGATE:
                        push(-pop());
                        break;
                    case NOT:
                        push(1 - pop());
                        break;
                    default:
                        int right = pop();
                        int left = pop();
                        push(op < LESS ? reckon(op, left, right) : asked(op, left, right));
                }
            }
            return Math.max(LEAST_OF_LAW[law], Math.min(MOST_OF_LAW[law], pop()));
        }

        private static int reckon(int op, long left, long right) {
            long result;
            switch (op) {
                case ADD: result = left + right; break;
                case TAKE: result = left - right; break;
                case TIMES: result = left * right; break;
                default: result = right == 0 ? 0 : left / right;
            }
            return (int) Math.max(-MOST_VALUE, Math.min(MOST_VALUE, result));
        }

        private static int asked(int op, int left, int right) {
            boolean holds;
            switch (op) {
                case LESS: holds = left < right; break;
                case AT_MOST: holds = left <= right; break;
                case MORE: holds = left > right; break;
                case AT_LEAST: holds = left >= right; break;
                case LIKE: holds = left == right; break;
                case UNLIKE: holds = left != right; break;
                case AND: holds = left != 0 && right != 0; break;
                default: holds = left != 0 || right != 0;
            }
            return holds ? 1 : 0;
        }

        private void push(int value) {
            if (top < MOST_STACKED) {
                stack[top] = value;
                top++;
            }
        }

        private int pop() {
            if (top == 0) {
                return 0;
            }
            top--;
            return stack[top];
        }
    }

    /**
     * Two fresh ENDS without laws, SPREAD and RULE. They are followed from change
     * to change and not TENTH by TENTH, as APART asks for 625 such pairs at once.
     */
    private static final class Pair {
        private static final int TENTHS = 1000;
        private static final int WAITS = 25;

        private final int[] wait = new int[2];
        /** How many TENTHS later the other one HEARS each. */
        private final int[] lags = new int[2];
        private int length;
        private int stops;
        /** The TURNS of each END, in their order; ended is NONE while one goes on. */
        private final int[][] began = new int[2][TENTHS + 1];
        private final int[][] ended = new int[2][TENTHS + 1];
        private final int[][] kind = new int[2][TENTHS + 1];
        private final int[] count = new int[2];
        /** Of each END, the first of the other's TURNS that it can still HEAR. */
        private final int[] nearest = new int[2];
        /** Of each END, the first TURN of which it is open whether it came through. */
        private final int[] unjudged = new int[2];
        private int best;
        final int[] apartRow = new int[WAITS * WAITS];
        int apartCount = NONE;

        void set(int there, int back, int newLength, int newStops) {
            if (lags[0] != 1 + there || lags[1] != 1 + back || length != newLength || stops != newStops) {
                apartCount = NONE;
            }
            lags[0] = 1 + there;
            lags[1] = 1 + back;
            length = newLength;
            stops = newStops;
        }

        /** Fills the row, unless it is filled for these numbers already. */
        void findApart() {
            if (apartCount != NONE) {
                return;
            }
            apartCount = 0;
            for (int i = 0; i < WAITS * WAITS; i++) {
                if (comesAt(i / WAITS, i % WAITS) != NONE) {
                    apartRow[apartCount] = i;
                    apartCount++;
                }
            }
        }

        int comesAt(int w0, int w1) {
            wait[0] = w0;
            wait[1] = w1;
            best = NONE;
            for (int e = 0; e < 2; e++) {
                count[e] = 0;
                nearest[e] = 0;
                unjudged[e] = 0;
                begin(e, 0);
            }
            // each TURN makes two changes and takes a TENTH at least
            for (int i = 0; i < 4 * TENTHS && !isSettled(); i++) {
                int change0 = nextChange(0);
                int change1 = nextChange(1);
                int tenth = Math.min(TENTHS, Math.min(change0, change1));
                judge(0, tenth);
                judge(1, tenth);
                if (tenth >= TENTHS) {
                    return best;
                }
                change(change0 <= change1 ? 0 : 1, tenth);
            }
            return best;
        }

        private boolean isSpeaking(int e) {
            return count[e] > 0 && ended[e][count[e] - 1] == NONE;
        }

        private void begin(int e, int tenth) {
            if (count[e] <= TENTHS) {
                began[e][count[e]] = tenth;
                ended[e][count[e]] = NONE;
                kind[e][count[e]] = 0;
                count[e]++;
            }
        }

        private void change(int e, int tenth) {
            if (!isSpeaking(e)) {
                begin(e, tenth);
                return;
            }
            int turn = count[e] - 1;
            kind[e][turn] = yieldsIn(e) == tenth ? YIELDED : SAID;
            ended[e][turn] = tenth;
        }

        /** The TENTH of an END's next change, if the other one goes on as it does. */
        private int nextChange(int e) {
            int turn = count[e] - 1;
            int since = isSpeaking(e) ? began[e][turn] : ended[e][turn];
            passBy(e, since);
            if (isSpeaking(e)) {
                return Math.min(since + length, yieldsIn(e));
            }
            return beginsIn(e, since);
        }

        /** The other's TURNS that were HEARD out ahead of a TENTH matter no longer. */
        private void passBy(int e, int tenth) {
            int other = 1 - e;
            while (nearest[e] < count[other] && ended[other][nearest[e]] != NONE
                    && ended[other][nearest[e]] + lags[other] <= tenth) {
                nearest[e]++;
            }
        }

        /**
         * When the one that is SPEAKING has been PRESSED so many TENTHS on end. The first TURN
         * that it HEARS decides: with the same numbers for both, a TURN that ends sooner than so
         * many TENTHS is SAID, and then this one is SAID sooner, too.
         */
        private int yieldsIn(int e) {
            int other = 1 - e;
            if (stops == 0 || nearest[e] >= count[other]) {
                return TENTHS;
            }
            return began[other][nearest[e]] + lags[other] + stops - 1;
        }

        /** When the one that is SILENT since a TENTH has HEARD nothing for longer than its wait. */
        private int beginsIn(int e, int since) {
            int other = 1 - e;
            int quietFrom = since;
            for (int i = nearest[e]; i < count[other]; i++) {
                if (quietFrom + wait[e] < began[other][i] + lags[other]) {
                    return quietFrom + wait[e];
                }
                if (ended[other][i] == NONE) {
                    return TENTHS;
                }
                quietFrom = Math.max(quietFrom, ended[other][i] + lags[other]);
            }
            return quietFrom + wait[e];
        }

        /** Looks at the TURNS whose last TENTH was HEARD ahead of a TENTH. */
        private void judge(int e, int tenth) {
            while (unjudged[e] < count[e] && ended[e][unjudged[e]] != NONE) {
                int turn = unjudged[e];
                int heardFrom = began[e][turn] + lags[e];
                int heardTo = heardFrom + length - 1;
                if (kind[e][turn] == SAID) {
                    if (heardTo >= tenth) {
                        return;
                    }
                    if (isSilent(1 - e, heardFrom, heardTo) && (best == NONE || began[e][turn] < best)) {
                        best = began[e][turn];
                    }
                }
                unjudged[e]++;
            }
        }

        private boolean isSilent(int e, int from, int to) {
            for (int i = count[e] - 1; i >= 0; i--) {
                if (ended[e][i] != NONE && ended[e][i] <= from) {
                    return true;
                }
                if (began[e][i] <= to) {
                    return false;
                }
            }
            return true;
        }

        /** Whether one came through and none that BEGAN ahead of it still could. */
        private boolean isSettled() {
            return best != NONE && isJudgedTo(0, best) && isJudgedTo(1, best);
        }

        private boolean isJudgedTo(int e, int tenth) {
            return unjudged[e] >= count[e] || began[e][unjudged[e]] >= tenth;
        }
    }

    /** What can be AGREED on. */
    private static final class Agreed {
        private final int[] words = new int[MOST_TOLD_AHEAD];
        private final int[] saves = new int[MOST_TOLD_AHEAD];
        private final int[] needs = new int[MOST_TOLD_AHEAD];
        int count;

        void copyFrom(Agreed other) {
            count = other.count;
            for (int i = 0; i < count; i++) {
                words[i] = other.words[i];
                saves[i] = other.saves[i];
                needs[i] = other.needs[i];
            }
        }

        boolean areTold(int bits) {
            return bits >= 0 && bits >> count == 0;
        }

        void add(int newWords, int newSaves, int newNeeds) {
            if (count < MOST_TOLD_AHEAD) {
                words[count] = newWords;
                saves[count] = newSaves;
                needs[count] = newNeeds;
                count++;
            }
        }

        int leastSet(int toSave) {
            int best = NONE;
            int bestWords = 0;
            for (int set = 0; set < 1 << count; set++) {
                if (hasAllItNeeds(set) && sumOf(saves, set) >= toSave) {
                    int setWords = sumOf(words, set);
                    boolean fewer = setWords == bestWords && Integer.bitCount(set) < Integer.bitCount(best);
                    if (best == NONE || setWords < bestWords || fewer) {
                        best = set;
                        bestWords = setWords;
                    }
                }
            }
            return best;
        }

        private boolean hasAllItNeeds(int set) {
            for (int i = 0; i < count; i++) {
                if ((set >> i & 1) != 0 && (needs[i] & ~set) != 0) {
                    return false;
                }
            }
            return true;
        }

        private int sumOf(int[] row, int set) {
            int sum = 0;
            for (int i = 0; i < count; i++) {
                if ((set >> i & 1) != 0) {
                    sum += row[i];
                }
            }
            return sum;
        }
    }

    /** What was HEARD of answers: how long both ways can be by each. */
    private static final class Answers {
        private final int[] low = new int[MOST_TOLD_AHEAD];
        private final int[] high = new int[MOST_TOLD_AHEAD];
        int count;

        void copyFrom(Answers other) {
            count = other.count;
            for (int i = 0; i < count; i++) {
                low[i] = other.low[i];
                high[i] = other.high[i];
            }
        }

        void add(int newLow, int newHigh) {
            if (count < MOST_TOLD_AHEAD) {
                low[count] = newLow;
                high[count] = newHigh;
                count++;
            }
        }

        int leastWays() {
            int most = 0;
            for (int i = 0; i < count; i++) {
                most = Math.max(most, low[i]);
            }
            return most;
        }

        int mostWays() {
            int least = MOST_BOTH_WAYS;
            for (int i = 0; i < count; i++) {
                least = Math.min(least, high[i]);
            }
            return least;
        }
    }
}
