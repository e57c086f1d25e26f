/** For each promise of the document ordinary inputs, the edges that it names, and wrong inputs. */
public final class PromiseTest {
    private static final int NONE = LongLine.NONE;
    private static final int LOW = Integer.MIN_VALUE;
    private static final int HIGH = Integer.MAX_VALUE;
    private static int wrong;

    private static void due(String call, int got, int want) {
        if (got != want) {
            wrong++;
            System.out.println(call + " answered " + got + ", due is " + want);
        }
    }

    private static void due(String call, boolean got, boolean want) {
        due(call, got ? 1 : 0, want ? 1 : 0);
    }

    /** Each number of a row, in its order. */
    private static void dueRow(String call, int[] got, int... want) {
        due(call + ": how many", got.length, want.length);
        for (int i = 0; i < got.length && i < want.length; i++) {
            due(call + ": number " + i, got[i], want[i]);
        }
    }

    private static int[] turnRow(LongLine x, int i) {
        int[] row = new int[5];
        for (int what = 0; what < 5; what++) {
            row[what] = x.turn(i, what);
        }
        return row;
    }

    private static int[] refusals(LongLine x) {
        return new int[] {x.refused(0), x.refused(1), x.refused(2)};
    }

    /** Puts a text on the tape, which must be empty, and reads it. */
    private static int tell(LongLine x, String text) {
        putOnTape(x, text);
        return x.text();
    }

    private static void putOnTape(LongLine x, String text) {
        int before = x.about(9);
        for (int i = 0; i < text.length(); i += 20) {
            int[] words = new int[5];
            for (int k = 0; k < 20; k++) {
                int sign = i + k < text.length() ? text.charAt(i + k) : ' ';
                words[k / 4] |= sign << 8 * (3 - k % 4);
            }
            x.feed(words[0], words[1], words[2], words[3], words[4]);
        }
        due("end() of " + text, x.end(before + text.length()), before + text.length());
    }

    private static LongLine withEnds(int count) {
        LongLine x = new LongLine();
        for (int e = 0; e < count; e++) {
            x.tellEnd(99, 0, 0, 5);
        }
        return x;
    }

    /** ENDS that never begin by themselves in the first thousand TENTHS. */
    private static LongLine silent(int count) {
        LongLine x = new LongLine();
        tell(x, "wait 999;");
        x.by(0);
        for (int e = 0; e < count; e++) {
            x.tellEnd(99, 0, 0, 5);
        }
        return x;
    }

    private static void newObject() {
        LongLine x = new LongLine();
        int[] first = {0, 0, 0, 13, 0, NONE, 0, 0, 0, 0};
        for (int what = 0; what < 10; what++) {
            due("1: about " + what, x.about(what), first[what]);
        }
        dueRow("1: refused", refusals(x), 0, 0, 0);
        due("1: turns", x.turn(NONE, 0), 0);
        due("1: yeses", x.said(NONE, 0), 0);
        due("1: an END", x.of(0, 0), -2);
        x.tellEnd(1, 0, 0, 1);
        x.go(9);
        x.seed(5);
        due("1: back to the new object", x.back(), 0);
        due("1: no ENDS", x.about(0), 0);
        due("1: first X", x.about(3), 13);
    }

    private static void tellEnd() {
        LongLine x = new LongLine();
        due("2: least", x.tellEnd(0, 0, 0, 1), 0);
        due("2: most", x.tellEnd(99, 24, 99, 99), 1);
        int[][] others = {{-1, 0, 0, 1}, {100, 0, 0, 1}, {0, -1, 0, 1}, {0, 25, 0, 1}, {0, 0, -1, 1},
            {0, 0, 100, 1}, {0, 0, 0, 0}, {0, 0, 0, 100}, {LOW, HIGH, LOW, HIGH}};
        for (int[] o : others) {
            due("2: others", x.tellEnd(o[0], o[1], o[2], o[3]), NONE);
        }
        due("2: third", x.tellEnd(5, 6, 7, 8), 2);
        due("2: fourth", x.tellEnd(1, 1, 1, 1), 3);
        due("2: fifth", x.tellEnd(1, 1, 1, 1), NONE);
        due("2: fifth and wrong", x.tellEnd(1, 1, 1, 0), NONE);
        dueRow("2: refused", refusals(x), 10, 1, 0);
        due("2: no STEP", x.about(6), 0);
        dueRow("2: as told", new int[] {x.of(2, 0), x.of(2, 1), x.of(2, 2), x.of(2, 3)}, 5, 6, 7, 8);
    }

    private static void seed() {
        LongLine x = new LongLine();
        due("3: most", x.seed(9999), true);
        due("3: X", x.about(3), 30010);
        due("3: below", x.seed(-1), false);
        due("3: above", x.seed(10000), false);
        due("3: X stays", x.about(3), 30010);
        due("3: least", x.seed(0), true);
        due("3: X", x.about(3), 13);
        due("3: the same again", x.seed(0), true);
        due("3: no STEP", x.about(6), 0);
        dueRow("3: refused", refusals(x), 2, 0, 0);
        // a STEP that is taken back brings the X from ahead of it
        x.rule(1);
        x.seed(7);
        x.undo();
        due("3: X ahead of the STEP", x.about(3), 13);
    }

    private static void delay() {
        LongLine x = silent(3);
        due("4: it is 0 already", x.delay(0, 1, 0), false);
        due("4: most", x.delay(0, 1, 60), true);
        due("4: so already", x.delay(0, 1, 60), false);
        due("4: above", x.delay(0, 1, 61), false);
        due("4: below", x.delay(0, 1, -1), false);
        due("4: to itself", x.delay(1, 1, 5), false);
        due("4: no such END", x.delay(0, 3, 5), false);
        due("4: no such END", x.delay(-1, 0, 5), false);
        dueRow("4: refused", refusals(x), 5, 0, 2);
        due("4: a STEP", x.about(6), 1);
        due("4: other way", x.of(0, 21), 0);
        due("4: this way", x.of(1, 20), 60);
        x.speak(0, 1);
        x.go(1);
        x.go(60);
        due("4: not HEARD yet", x.through(0, 1, false), 0);
        due("4: HEARD by the third", x.through(0, 2, false), 1);
        x.go(1);
        due("4: HEARD 61 TENTHS later", x.through(0, 1, false), 1);
        // what is under way comes by the DELAY that is now
        x.speak(0, 1);
        x.go(3);
        x.delay(0, 1, 2);
        due("4: under way", x.through(0, 1, false), 1);
        x.go(1);
        due("4: HEARD sooner", x.through(0, 1, false), 2);
    }

    private static void rule() {
        LongLine x = new LongLine();
        due("5: it is 0 already", x.rule(0), false);
        due("5: above", x.rule(4), false);
        due("5: below", x.rule(-1), false);
        due("5: told", x.rule(3), true);
        due("5: RULE", x.about(2), 3);
        due("5: a STEP", x.about(6), 1);
        dueRow("5: refused", refusals(x), 2, 0, 1);
        patienceByRule(1, 4, 14, 24);
        patienceByRule(2, 4, 9999, 9999);
        patienceByRule(3, 12, 12, 12);
        callLeads();
        over();
        drawsByEachRule();
    }

    private static void patienceByRule(int rule, int... patience) {
        LongLine x = new LongLine();
        for (int e = 0; e < 3; e++) {
            x.tellEnd(4, 0, 0, 2);
        }
        x.rule(rule);
        x.go(1);
        for (int e = 0; e < 3; e++) {
            due("5: PATIENCE by " + rule + " of " + e, x.of(e, 6), patience[e]);
        }
    }

    private static void callLeads() {
        LongLine x = new LongLine();
        x.tellEnd(4, 0, 0, 2);
        x.tellEnd(6, 0, 0, 3);
        x.rule(2);
        // END 0 speaks in 5 and 6, and END 1 HEARS it in 6 and 7
        x.go(7);
        due("5: not yet anew", x.of(1, 6), 9999);
        x.go(1);
        due("5: who was called", x.of(1, 6), 6);
        // what it HEARD ahead of a TURN of its own calls no longer
        x.speak(1, 1);
        x.go(2);
        due("5: END 1 ENDED", x.turn(1, 3), 10);
        due("5: HEARD nobody since its TURN", x.of(1, 6), 9999);
        // HEARD in the very TENTH in which its TURN ENDED
        LongLine w = new LongLine();
        w.tellEnd(99, 0, 0, 1);
        w.tellEnd(3, 0, 0, 1);
        w.rule(2);
        w.speak(1, 2);
        w.go(1);
        w.speak(0, 1);
        w.go(3);
        due("5: ENDED in 3, HEARD in 3", w.of(1, 6), 3);
        // a TURN of which no TENTH was spoken is no latest one
        LongLine y = new LongLine();
        y.tellEnd(99, 0, 0, 1);
        y.tellEnd(3, 0, 0, 1);
        y.rule(2);
        y.speak(0, 1);
        y.go(2);
        y.speak(1, 4);
        y.hush(1);
        y.go(1);
        due("5: HUSHED ahead of its first TENTH", y.of(1, 6), 3);
    }

    private static void over() {
        LongLine x = new LongLine();
        for (int e = 0; e < 3; e++) {
            x.tellEnd(30, 0, 0, 2);
        }
        x.rule(3);
        x.speak(2, 1);
        x.go(2);
        due("5: END 0 HEARD END 2", x.of(0, 8), 2);
        x.go(1);
        due("5: next behind the last is the first", x.turn(1, 0), 0);
        due("5: it BEGAN at once", x.turn(1, 1), 3);
        due("5: PATIENCE of the next one", x.of(0, 6), 0);
        due("5: PATIENCE of another one", x.of(1, 6), 90);
        LongLine y = new LongLine();
        for (int e = 0; e < 3; e++) {
            y.tellEnd(30, 0, 0, 2);
        }
        y.rule(3);
        y.speak(0, 1);
        y.go(3);
        due("5: the next by number", y.turn(1, 0), 1);
        due("5: it BEGAN at once", y.turn(1, 1), 3);
        due("5: not the one behind it", y.of(2, 6), 90);
    }

    private static void drawsByEachRule() {
        int[] patience = {3, 3, 3, 9};
        for (int rule = 0; rule < 4; rule++) {
            LongLine x = new LongLine();
            x.tellEnd(0, 4, 0, 2);
            x.tellEnd(0, 4, 0, 2);
            x.rule(rule);
            x.go(1);
            due("5: first draw by " + rule, x.of(0, 6), patience[rule]);
            due("5: both have drawn by " + rule, x.about(3), 15344);
        }
    }

    private static void speak() {
        LongLine x = silent(2);
        due("6: above", x.speak(0, 100), NONE);
        due("6: below", x.speak(0, 0), NONE);
        due("6: no such END", x.speak(2, 5), NONE);
        due("6: no such END", x.speak(-1, 5), NONE);
        due("6: TURN", x.speak(1, 2), 0);
        dueRow("6: as told", turnRow(x, 0), 1, 1, 2, NONE, 0);
        due("6: SPEAKING", x.of(1, 4), 1);
        due("6: SPEAKING already", x.speak(1, 2), NONE);
        due("6: SPEAKING already, and wrong", x.speak(1, 0), NONE);
        dueRow("6: refused", refusals(x), 5, 0, 1);
        due("6: none began by itself", x.go(2), 0);
        due("6: none ENDED yet", x.turn(0, 3), NONE);
        x.go(1);
        dueRow("6: SAID", turnRow(x, 0), 1, 1, 2, 3, 1);
        due("6: HEARD", x.through(1, 0, false), 2);
        for (int i = 1; i < 90; i++) {
            due("6: one more", x.speak(0, 1), i);
            x.hush(0);
        }
        due("6: 91st", x.speak(0, 1), NONE);
        due("6: refused by one too many", x.refused(1), 1);
        due("6: 90 TURNS", x.turn(NONE, 7), 90);
    }

    private static void hush() {
        LongLine x = silent(2);
        due("7: SILENT", x.hush(0), NONE);
        due("7: no such END", x.hush(2), NONE);
        due("7: no such END", x.hush(LOW), NONE);
        x.speak(0, 9);
        x.go(4);
        due("7: TURN", x.hush(0), 0);
        dueRow("7: ENDED in the next TENTH", turnRow(x, 0), 0, 1, 9, 5, 3);
        due("7: SILENT", x.of(0, 4), 0);
        due("7: QUIET", x.of(0, 5), 0);
        due("7: not YIELDED", x.of(0, 10), 0);
        due("7: a STEP", x.about(6), 3);
        x.go(3);
        due("7: what was spoken was HEARD", x.through(0, 1, false), 4);
        dueRow("7: refused", refusals(x), 2, 0, 1);
    }

    private static void yes() {
        LongLine x = silent(3);
        x.delay(1, 0, 4);
        x.speak(1, 2);
        x.speak(2, 2);
        x.go(3);
        due("8: none HEARD out yet", x.yes(0), NONE);
        x.go(1);
        due("8: HEARD out in TENTH 4", x.yes(0), 1);
        x.go(4);
        due("8: HEARD out in TENTH 8", x.yes(0), 0);
        due("8: of like ones", x.yes(2), 0);
        due("8: no such END", x.yes(3), -2);
        due("8: no such END", x.yes(-1), -2);
        x.delay(1, 0, 0);
        due("8: of like ones the lowest, by the DELAY now", x.yes(0), 0);
        x.speak(0, 3);
        x.hush(0);
        x.go(5);
        due("8: none for what was not spoken", x.yes(1), 1);
        for (int i = 6; i < 40; i++) {
            due("8: one more", x.yes(0), 0);
        }
        due("8: 41st", x.yes(0), -2);
        due("8: 41st of no END", x.yes(4), -2);
        dueRow("8: refused", refusals(x), 3, 1, 0);
        due("8: 40 YESES", x.said(NONE, 0), 40);
        due("8: STEPS", x.about(6), 30);
    }

    private static void go() {
        LongLine x = new LongLine();
        due("9: without ENDS", x.go(300), 0);
        due("9: TENTH", x.about(1), 300);
        due("9: none", x.go(0), NONE);
        due("9: above", x.go(301), NONE);
        for (int i = 1; i < 29; i++) {
            x.go(300);
        }
        x.go(299);
        due("9: beyond 9000", x.go(2), NONE);
        due("9: TENTH stays", x.about(1), 8999);
        due("9: up to 9000", x.go(1), 0);
        due("9: beyond 9000", x.go(1), NONE);
        dueRow("9: refused", refusals(x), 2, 2, 0);
        alone();
        yields();
        saidAndBegunInOneTenth();
        clearAndLost();
        waitsOnAtNinety();
    }

    private static void alone() {
        LongLine x = new LongLine();
        x.tellEnd(3, 0, 0, 2);
        due("9: none yet", x.go(3), 0);
        due("9: QUIET", x.of(0, 5), 3);
        due("9: above PATIENCE", x.go(1), 1);
        dueRow("9: it BEGAN in 4", turnRow(x, 0), 0, 4, 2, NONE, 0);
        x.go(2);
        dueRow("9: SAID in 6", turnRow(x, 0), 0, 4, 2, 6, 1);
        due("9: QUIET from the TURN's end", x.of(0, 5), 1);
        due("9: 5 in each TURN", x.go(15), 3);
        due("9: it BEGAN in 9", x.turn(1, 1), 9);
    }

    private static void yields() {
        LongLine x = silent(2);
        x.tellEnd(99, 0, 3, 5);
        x.speak(2, 9);
        x.go(1);
        x.speak(0, 2);
        x.go(3);
        due("9: PRESSED", x.of(2, 7), 2);
        x.go(1);
        due("9: PRESSED no longer", x.of(2, 7), 0);
        x.speak(1, 9);
        x.go(3);
        due("9: PRESSED anew", x.of(2, 7), 2);
        x.go(1);
        dueRow("9: YIELDED", turnRow(x, 0), 2, 1, 9, 9, 2);
        due("9: cut", x.of(2, 10), 1);
        // PRESSED is looked at ahead of how long it has spoken
        LongLine y = silent(1);
        y.tellEnd(99, 0, 1, 5);
        y.speak(0, 1);
        y.speak(1, 1);
        y.go(2);
        due("9: YIELDED in the TENTH in which all was said", y.turn(1, 4), 2);
        // one that has not spoken yet can yield, too
        y.speak(0, 3);
        y.go(1);
        y.speak(1, 3);
        y.go(1);
        dueRow("9: YIELDED ahead of its first TENTH", turnRow(y, 3), 1, 4, 3, 4, 2);
        due("9: the other one is CLEAR there", y.through(0, 1, false), 2);
    }

    private static void saidAndBegunInOneTenth() {
        LongLine x = new LongLine();
        x.tellEnd(0, 0, 0, 3);
        due("9: without a wait", x.go(7), 3);
        dueRow("9: the first", turnRow(x, 0), 0, 1, 3, 4, 1);
        dueRow("9: the next in the same TENTH", turnRow(x, 1), 0, 4, 3, 7, 1);
    }

    private static void clearAndLost() {
        LongLine x = silent(3);
        x.speak(0, 3);
        x.speak(1, 1);
        x.go(5);
        due("9: two at once are LOST", x.through(0, 2, true), 1);
        due("9: both of them", x.through(1, 2, true), 1);
        due("9: one alone is CLEAR", x.through(0, 2, false), 2);
        due("9: CLEAR at one that speaks no more", x.through(0, 1, false), 3);
        due("9: LOST at one that speaks", x.through(1, 0, true), 1);
        due("9: of several the lowest is HEARD last", x.of(2, 8), 0);
    }

    private static void waitsOnAtNinety() {
        LongLine x = new LongLine();
        x.tellEnd(2, 0, 0, 1);
        x.tellEnd(0, 5, 0, 1);
        x.seed(1);
        for (int i = 0; i < 90; i++) {
            x.speak(i % 2, 1);
            x.hush(i % 2);
        }
        due("9: none begins beyond 90", x.go(3), 0);
        due("9: it waits on", x.of(0, 5), 2);
        // X is 16 first: 16 mod 6 is 4, so END 1 finds its PATIENCE once
        due("9: PATIENCE of the other one", x.of(1, 6), 4);
        x.go(9);
        due("9: QUIET isn't made more", x.of(0, 5), 2);
        due("9: nor the other's", x.of(1, 5), 4);
        // a TURN less, and one can begin again
        x.undo();
        x.undo();
        x.undo();
        x.undo();
        due("9: 89 TURNS", x.turn(NONE, 0), 89);
        due("9: the 90th", x.go(3), 1);
        due("9: it is of END 0", x.turn(89, 0), 0);
    }

    private static void feed() {
        LongLine x = new LongLine();
        due("10: twenty bytes", x.feed(0x77616974, 0x20313b20, 0x20202020, 0x20202020, 0x676f2031), 20);
        due("10: more", x.feed(0x3b202020, 0, -1, LOW, HIGH), 40);
        x.end(21);
        due("10: the highest byte first", x.text(), 0);
        for (int i = 1; i <= 15; i++) {
            due("10: more", x.feed(0, 0, 0, 0, 0), 20 * i);
        }
        due("10: full", x.feed(0, 0, 0, 0, 0), NONE);
        due("10: none come", x.about(9), 300);
        x.end(281);
        due("10: 301 would be", x.feed(0, 0, 0, 0, 0), NONE);
        due("10: none come", x.about(9), 281);
        dueRow("10: refused", refusals(x), 0, 2, 0);
        due("10: no STEP", x.about(6), 0);
    }

    private static void end() {
        LongLine x = new LongLine();
        due("11: of an empty tape", x.end(0), 0);
        due("11: not so many", x.end(1), NONE);
        x.feed(1, 2, 3, 4, 5);
        due("11: not so many", x.end(21), NONE);
        due("11: below 0", x.end(-1), NONE);
        due("11: nothing is done", x.about(9), 20);
        due("11: all", x.end(20), 20);
        due("11: some", x.end(7), 7);
        due("11: bytes", x.about(9), 7);
        dueRow("11: refused", refusals(x), 3, 0, 0);
    }

    private static void text() {
        LongLine x = new LongLine();
        due("12: an empty one", x.text(), 0);
        due("12: with a FAULT", tell(x, "wait"), NONE);
        due("12: the tape is empty", x.about(9), 0);
        due("12: each law", tell(x, "wait 1;stops 2;long 3;cold gap;haste into;"), 1);
        due("12: each act", tell(x, "speak 3 for 99;hush 0;yes 3;go 300;delay 0 to 3 by 60;rule 3;"), 2);
        due("12: blanks", tell(x, "\n wait\n1\n\n+2 ;\n"), 3);
        due("12: TEXTS", x.about(4), 4);
        putOnTape(x, "go 1;");
        due("12: a fifth", x.text(), NONE);
        due("12: the tape stays", x.about(9), 5);
        dueRow("12: refused", refusals(x), 0, 1, 0);
        due("12: no STEP", x.about(6), 0);
        due("12: the longest", new LongLine().text(), 0);
        StringBuilder b = new StringBuilder("wait 1");
        while (b.length() < 297) {
            b.append("+1");
        }
        b.append(" ;");
        LongLine w = new LongLine();
        tell(w, b.substring(0, 295) + "    <");
        due("12: 300 bytes, the last of which might go on", w.fault(1), 299);
        LongLine y = new LongLine();
        putOnTape(y, b.append("  ").substring(0, 300));
        due("12: of 300 bytes", y.text(), 0);
        y.by(0);
        y.tellEnd(0, 0, 0, 1);
        y.go(1);
        due("12: all of it is read", y.of(0, 6), 147);
        sums();
    }

    /** What a wait is by a law, of END 2 of 3 with WAIT 5, SPREAD 0, STOPS 7, LENGTH 8, by RULE 0. */
    private static int waitBy(String sum) {
        LongLine x = new LongLine();
        x.tellEnd(99, 0, 0, 1);
        x.tellEnd(99, 0, 0, 1);
        x.tellEnd(5, 0, 7, 8);
        due("12: a text of " + sum, tell(x, "wait " + sum + ";"), 0);
        x.by(0);
        x.go(1);
        return x.of(2, 6);
    }

    private static void sums() {
        Object[][] all = {
            {"2+3*4", 14}, {"(2+3)*4", 20}, {"20-3-4", 13}, {"20/3*3", 18}, {"7/0+5", 5}, {"-7/2+10", 7},
            {"--7", 7}, {"0-5", 0}, {"9999", 999}, {"9999*9999/1000", 999}, {"9999*9999-9999*9999+3", 3},
            {"-9999*9999+9999*9999/2+9999*51", 999}, {"9999*9999/9999", 100}, {"who", 2}, {"ends", 3}, {"ruled", 0},
            {"turns", 0}, {"cut", 0}, {"waits", 5}, {"spread", 0}, {"stop", 7}, {"length", 8},
            {"if 1<2 then 3 else 4 end", 3}, {"if 2<2 then 3 else 4 end", 4}, {"if 2<=2 then 3 else 4 end", 3},
            {"if 3<=2 then 3 else 4 end", 4}, {"if 3>2 then 3 else 4 end", 3}, {"if 2>2 then 3 else 4 end", 4},
            {"if 2>=2 then 3 else 4 end", 3}, {"if 1>=2 then 3 else 4 end", 4}, {"if 2=2 then 3 else 4 end", 3},
            {"if 1=2 then 3 else 4 end", 4}, {"if 1#2 then 3 else 4 end", 3}, {"if 2#2 then 3 else 4 end", 4},
            {"if not 1=2 then 3 else 4 end", 3}, {"if not not 1=2 then 3 else 4 end", 4},
            {"if 1=1 or 1=1 and 1=2 then 3 else 4 end", 3}, {"if 1=2 and 1=1 or 1=1 then 3 else 4 end", 3},
            {"if 1=1 and 1=2 then 3 else 4 end", 4}, {"if not 1=2 and 1=1 then 3 else 4 end", 3},
            {"if not 1=1 or 1=2 then 3 else 4 end", 4}, {"1+if 1=1 then if 1=2 then 3 else 4 end else 5 end*2", 9},
            {"if 1+1*2=3 then (1) else 2 end", 1}, {"00012", 12}, {"3-(2-1)", 2}, {"12/(3*2)", 2},
            {"((((((((1))))))))", 1}, {"-(-(-(-5)))", 5},
        };
        for (Object[] one : all) {
            due("12: wait " + one[0], waitBy((String) one[0]), (Integer) one[1]);
        }
    }

    private static void fault() {
        LongLine x = new LongLine();
        due("13: ahead of any", x.fault(0), NONE);
        due("13: ahead of any", x.fault(1), NONE);
        Object[][] all = {
            {"", 0, NONE}, {"   ", 0, NONE}, {"go 1;", 0, NONE}, {"Wait 1;", 1, 0}, {"waits 1;", 1, 0}, {"1", 1, 0},
            {" ;", 1, 1}, {"wait", 1, 4}, {"wait ", 1, 5}, {"wait 1", 1, 6}, {"wait 1 2;", 1, 7}, {"wait 1+;", 1, 7},
            {"wait ();", 1, 6}, {"wait (1;", 1, 7}, {"wait 1);", 1, 6}, {"wait $;", 1, 5}, {"wait 1\t;", 1, 6},
            {"wait foo;", 1, 5}, {"wait then;", 1, 5}, {"wait whos;", 1, 5}, {"wait (1<2);", 1, 7}, {"wait 1<2;", 1, 6},
            {"wait if 1 <= = 2 then 1 else 2 end;", 1, 13}, {"wait if (1<2) then 1 else 2 end;", 1, 10},
            {"wait if 1<2 then 1 else 2;", 1, 25}, {"wait if 1<2<3 then 1 else 2 end;", 1, 11},
            {"wait not 1<2;", 1, 5}, {"wait 10000;", 2, 5}, {"wait 1 10000;", 1, 7}, {"wait 09999;", 0, NONE},
            {"wait 99999999999999999999;", 2, 5}, {"wait gap;", 5, 5}, {"wait into;", 5, 5}, {"long gap;", 5, 5},
            {"stops into;", 5, 6}, {"cold into;", 5, 5}, {"cold stop;", 5, 5}, {"haste gap;", 5, 6},
            {"haste cut;", 5, 6},
            {"cold turns;", 5, 5}, {"cold cut;", 5, 5}, {"cold waits;", 5, 5}, {"cold spread;", 5, 5}, {"cold length;", 5, 5},
            {"haste turns;", 5, 6}, {"haste waits;", 5, 6}, {"haste spread;", 5, 6}, {"haste stop;", 5, 6},
            {"haste length;", 5, 6}, {"long into;", 5, 5}, {"stops gap;", 5, 6}, {"waita 1;", 1, 0}, {"waitz 1;", 1, 0},
            {"waitA 1;", 1, 0}, {"waitZ 1;", 1, 0}, {"wait0;", 0, NONE}, {"wait9;", 0, NONE}, {"wait/1;", 1, 4},
            {"wait:1;", 1, 4}, {"wait@;", 1, 4}, {"wait[;", 1, 4}, {"wait`;", 1, 4}, {"wait{;", 1, 4},
            {"wait if 1;2 then 1 else 2 end;", 1, 9}, {"wait if 1)2 then 1 else 2 end;", 1, 9},
            {"wait if 1 who 2 then 1 else 2 end;", 1, 10}, {"wait 1 <", 1, 7}, {"wait 1 >= 2;", 1, 7}, {"=", 1, 0},
            {"wait if 1<", 1, 10}, {"wait if 1<=", 1, 11}, {"cold who+ends+ruled+gap;", 0, NONE}, {"haste who+ends+ruled+into;", 0, NONE},
            {"stops who+ends+ruled+turns+cut+waits+spread+stop+length;", 0, NONE},
            {"long who+ends+ruled+turns+cut+waits+spread+stop+length;", 0, NONE},
            {"speak 0 for 0;", 2, 12}, {"speak 0 for 100;", 2, 12}, {"speak 4 for 1;", 2, 6}, {"speak who for 1;", 1, 6},
            {"hush 4;", 2, 5}, {"yes 4;", 2, 4}, {"go 0;", 2, 3}, {"go 301;", 2, 3}, {"go 1+1;", 1, 4},
            {"delay 4 to 0 by 0;", 2, 6}, {"delay 0 to 4 by 0;", 2, 11}, {"delay 0 to 0 by 61;", 2, 16},
            {"delay 0 to 0 by 60;", 0, NONE}, {"delay 0 by 1;", 1, 8}, {"rule 4;", 2, 5},
            {"wait ((((((((1))))))));", 0, NONE}, {"wait (((((((((1)))))))));", 3, 13},
            {"wait --------1;", 0, NONE}, {"wait ---------1;", 3, 13}, {"wait -1-1-1-1-1-1-1-1-1-1;", 0, NONE},
            {"wait (-(-(-(-1))));", 0, NONE}, {"wait (-(-(-(-(1)))));", 3, 13},
            {"wait if not not not not not not not 1<2 then 1 else 2 end;", 0, NONE},
            {"wait if not not not not not not not 1<(2) then 1 else 2 end;", 3, 38},
            {"wait if not 1<2 and not not not not not not not 1<2 then 1 else 2 end;", 0, NONE},
            {"wait ((((((((if 1", 3, 13}, {"wait 1;wait 2;", 4, 7}, {"long 1;stops 1;long 1;", 4, 15},
            {"cold 1;haste 2;cold", 4, 15}, {"haste 1;haste", 4, 8}, {"stops 1;stops", 4, 8},
        };
        for (Object[] one : all) {
            LongLine y = new LongLine();
            tell(y, (String) one[0]);
            due("13: FAULT of " + one[0], y.fault(0), (Integer) one[1]);
            due("13: its place in " + one[0], y.fault(1), (Integer) one[2]);
        }
        StringBuilder b = new StringBuilder("wait 1;");
        for (int i = 1; i < 24; i++) {
            b.append("yes 0;");
        }
        due("13: 24 CLAUSES", tell(x, b.toString()), 0);
        due("13: without", x.fault(0), 0);
        due("13: without", x.fault(1), NONE);
        tell(x, b + "go");
        due("13: 25th", x.fault(0), 6);
        due("13: 25th", x.fault(1), 145);
        tell(x, b + "wait");
        due("13: of one the least", x.fault(0), 4);
        tell(x, b + "who");
        due("13: of one the least", x.fault(0), 1);
        due("13: others", x.fault(2), NONE);
        due("13: others", x.fault(-1), NONE);
        x.image();
        x.back();
        due("13: an image has no FAULT", x.fault(0), 1);
        dueRow("13: refused", refusals(x), 0, 0, 0);
    }

    private static void by() {
        LongLine x = new LongLine();
        due("14: none told", x.by(0), false);
        due("14: none", x.by(NONE), true);
        tell(x, "wait 2+turns*3+cut*100;stops 2;long 3+turns;");
        due("14: told", x.by(0), true);
        due("14: THE TEXT", x.about(5), 0);
        due("14: others", x.by(1), false);
        due("14: others", x.by(-2), false);
        dueRow("14: refused", refusals(x), 3, 0, 0);
        due("14: no STEP", x.about(6), 0);
        x.tellEnd(50, 0, 0, 9);
        x.tellEnd(99, 0, 0, 1);
        due("14: wait 2", x.go(3), 2);
        due("14: long 3", x.turn(0, 2), 3);
        x.go(2);
        due("14: stops 2", x.turn(0, 4), 2);
        x.go(1);
        due("14: turns and cut of its own", x.of(0, 6), 105);
        due("14: none again", x.by(NONE), true);
        due("14: THE TEXT", x.about(5), NONE);
        x.speak(0, 1);
        x.go(2);
        due("14: as told", x.of(0, 6), 50);
        boundsOfLaws();
    }

    private static void boundsOfLaws() {
        LongLine x = new LongLine();
        tell(x, "wait 0-5;long 0;stops 0-9;");
        tell(x, "wait 9999;long 9999;");
        x.by(0);
        x.tellEnd(50, 0, 1, 9);
        x.go(1);
        due("14: wait 0 at least", x.turn(0, 1), 1);
        due("14: long 1 at least", x.turn(0, 2), 1);
        x.by(1);
        x.go(1);
        due("14: wait 999 at most", x.of(0, 6), 999);
        x.go(300);
        x.go(300);
        x.go(300);
        x.go(98);
        due("14: not yet above", x.turn(NONE, 0), 1);
        x.go(1);
        due("14: long 99 at most", x.turn(1, 2), 99);
        // stops is asked each TENTH that is spoken on
        LongLine y = new LongLine();
        tell(y, "stops if cut=0 then 3 else 1 end;");
        y.tellEnd(99, 0, 0, 50);
        y.tellEnd(99, 0, 0, 50);
        y.speak(0, 50);
        y.speak(1, 50);
        y.go(3);
        y.by(0);
        y.go(1);
        due("14: PRESSED 3", y.turn(0, 3), 4);
        due("14: PRESSED 3", y.turn(1, 3), 4);
    }

    private static void played() {
        LongLine x = withEnds(2);
        due("15: no TEXT", x.played(0), -2);
        tell(x, "wait 3;speak 0 for 4;delay 0 to 1 by 2;go 2;yes 1;rule 1;hush 0;");
        due("15: all", x.played(0), NONE);
        dueRow("15: TURN", turnRow(x, 0), 0, 1, 4, 3, 3);
        due("15: DELAY", x.of(1, 20), 2);
        due("15: RULE", x.about(2), 1);
        due("15: YES", x.said(0, 1), 2);
        due("15: a STEP each", x.about(6), 6);
        due("15: a law isn't played", x.about(5), NONE);
        due("15: again", x.played(0), 2);
        due("15: what was done stays", x.turn(1, 1), 3);
        due("15: others", x.played(1), -2);
        due("15: others", x.played(NONE), -2);
        dueRow("15: refused", refusals(x), 3, 0, 1);
        tell(x, "cold 1;haste 2;");
        due("15: laws alone", x.played(1), NONE);
        tell(x, "speak 3 for 1;");
        due("15: no such END", x.played(2), 0);
        due("15: refused by what isn't there", x.refused(0), 4);
        tell(x, "long 1;go 300;go 300;go 300;go 300;go 300;go 300;go 300;go 300;go 300;go 300;go 300;go 300;");
        for (int i = 0; i < 2; i++) {
            due("15: far", x.played(3), NONE);
        }
        due("15: beyond 9000", x.played(3), 6);
        due("15: refused by one too many", x.refused(1), 1);
        due("15: TENTH", x.about(1), 8702);
    }

    private static void undo() {
        LongLine x = new LongLine();
        due("16: none", x.undo(), NONE);
        dueRow("16: refused", refusals(x), 0, 0, 1);
        x.tellEnd(2, 3, 0, 4);
        x.tellEnd(9, 0, 1, 4);
        x.seed(3);
        x.delay(0, 1, 3);
        x.go(11);
        int[] before = whole(x, 2);
        x.speak(1, 5);
        x.rule(2);
        x.go(40);
        x.yes(0);
        x.hush(1);
        x.tellEnd(0, 0, 0, 1);
        x.go(5);
        due("16: STEPS", x.about(6), 8 - (x.refused(2) == 2 ? 1 : 0));
        while (x.about(6) > 2) {
            x.undo();
        }
        dueRow("16: all is as ahead of it", whole(x, 2), before);
        due("16: an END that was told since stays", x.about(0), 3);
        dueRow("16: and is fresh", new int[] {x.of(2, 4), x.of(2, 5), x.of(2, 6), x.of(2, 7), x.of(2, 8), x.of(2, 9)},
            0, 0, 0, 0, NONE, 0);
        due("16: another", x.undo(), 1);
        due("16: the DELAY", x.undo(), 0);
        due("16: it is 0", x.of(1, 20), 0);
        due("16: TENTH", x.about(1), 0);
        LongLine y = withEnds(1);
        for (int i = 0; i < 31; i++) {
            y.go(1);
        }
        for (int i = 29; i >= 0; i--) {
            due("16: how many yet", y.undo(), i);
        }
        due("16: the latest 30 alone", y.undo(), NONE);
        due("16: TENTH", y.about(1), 1);
        // a TURN that has ended since goes on again
        LongLine z = silent(1);
        z.speak(0, 3);
        z.go(2);
        z.go(9);
        due("16: it has ended", z.turn(0, 4), 1);
        z.undo();
        dueRow("16: it goes on", turnRow(z, 0), 0, 1, 3, NONE, 0);
        z.go(2);
        dueRow("16: and ends again", turnRow(z, 0), 0, 1, 3, 4, 1);
        z.refused(0);
        z.speak(5, 5);
        z.undo();
        due("16: REFUSED is not brought back", z.refused(0), 1);
    }

    private static int[] whole(LongLine x, int ends) {
        java.util.ArrayList<Integer> all = new java.util.ArrayList<>();
        for (int what = 1; what <= 3; what++) {
            all.add(x.about(what));
        }
        for (int e = 0; e < ends; e++) {
            for (int what = 0; what < 24; what++) {
                all.add(what == 22 || what == 23 ? 0 : x.of(e, what));
            }
            for (int f = 0; f < ends; f++) {
                all.add(x.through(e, f, false));
                all.add(x.through(e, f, true));
            }
        }
        all.add(x.turn(NONE, 0));
        all.add(x.said(NONE, 0));
        for (int i = 0; i < x.turn(NONE, 0); i++) {
            for (int n : turnRow(x, i)) {
                all.add(n);
            }
        }
        int[] row = new int[all.size()];
        for (int i = 0; i < row.length; i++) {
            row[i] = all.get(i);
        }
        return row;
    }

    private static void of() {
        LongLine x = new LongLine();
        x.tellEnd(3, 0, 2, 6);
        x.tellEnd(9, 0, 0, 2);
        x.delay(1, 0, 1);
        x.go(7);
        dueRow("17: END 0", ofRow(x, 0), 3, 0, 2, 6, 1, 4, 3, 0, NONE, 1, 0);
        dueRow("17: END 1", ofRow(x, 1), 9, 0, 0, 2, 0, 0, 9, 0, 0, 0, 0);
        x.speak(1, 9);
        x.go(3);
        dueRow("17: END 0 is PRESSED", ofRow(x, 0), 3, 0, 2, 6, 0, 0, 3, 1, 1, 1, 0);
        x.undo();
        x.undo();
        x.speak(1, 9);
        x.hush(0);
        x.speak(0, 9);
        x.go(4);
        dueRow("17: END 0 has YIELDED", ofRow(x, 0), 3, 0, 2, 6, 0, 0, 3, 2, 1, 2, 1);
        due("17: DELAY to it", x.of(0, 21), 1);
        due("17: DELAY from itself", x.of(0, 20), 0);
        due("17: DELAY of no END", x.of(0, 22), -2);
        int[] others = {-1, 11, 19, 24, LOW, HIGH};
        for (int what : others) {
            due("17: others", x.of(0, what), -2);
        }
        due("17: no END", x.of(2, 0), -2);
        due("17: no END", x.of(-1, 0), -2);
        due("17: no END", x.of(2, 20), -2);
    }

    private static int[] ofRow(LongLine x, int end) {
        int[] row = new int[11];
        for (int what = 0; what < 11; what++) {
            row[what] = x.of(end, what);
        }
        return row;
    }

    private static void through() {
        LongLine x = silent(2);
        x.delay(0, 1, 1);
        x.speak(0, 6);
        x.go(4);
        due("18: CLEAR", x.through(0, 1, false), 2);
        x.speak(1, 2);
        x.go(2);
        due("18: LOST", x.through(0, 1, true), 2);
        due("18: CLEAR ones stay", x.through(0, 1, false), 2);
        x.go(3);
        due("18: CLEAR again", x.through(0, 1, false), 4);
        due("18: the other way", x.through(1, 0, false), 1);
        due("18: the other way, while it speaks", x.through(1, 0, true), 1);
        due("18: to itself", x.through(0, 0, false), NONE);
        due("18: no END", x.through(0, 2, false), NONE);
        due("18: no END", x.through(-1, 0, true), NONE);
    }

    private static void turn() {
        LongLine x = new LongLine();
        due("19: none", x.turn(NONE, 0), 0);
        due("19: none such", x.turn(0, 0), -2);
        x.tellEnd(1, 0, 0, 7);
        x.go(2);
        dueRow("19: going on", turnRow(x, 0), 0, 2, 7, NONE, 0);
        due("19: others", x.turn(0, 5), -2);
        due("19: others", x.turn(0, -1), -2);
        due("19: none such", x.turn(1, 0), -2);
        due("19: none such", x.turn(-2, 0), -2);
        x.go(7);
        dueRow("19: SAID", turnRow(x, 0), 0, 2, 7, 9, 1);
        due("19: how many", x.turn(NONE, 3), 1);
        x.go(1);
        due("19: how many", x.turn(NONE, 0), 2);
    }

    private static void said() {
        LongLine x = silent(3);
        due("20: none such", x.said(0, 0), -2);
        x.delay(0, 1, 2);
        x.speak(1, 2);
        x.go(4);
        x.yes(0);
        due("20: how many", x.said(NONE, 9), 1);
        dueRow("20: the first", new int[] {x.said(0, 0), x.said(0, 1), x.said(0, 2)}, 0, 4, 0);
        due("20: TAKEN by its own END", x.said(0, 10), NONE);
        due("20: TAKEN", x.said(0, 11), 0);
        due("20: TAKEN by one without TURNS", x.said(0, 12), NONE);
        due("20: no such END", x.said(0, 13), -2);
        due("20: others", x.said(0, 3), -2);
        due("20: others", x.said(0, 9), -2);
        due("20: others", x.said(0, -1), -2);
        due("20: others", x.said(0, HIGH), -2);
        due("20: none such", x.said(1, 0), -2);
        due("20: none such", x.said(-2, 0), -2);
        // END 1 HEARS it in 7: a TURN that BEGAN in 6 is ahead of that
        x.go(1);
        x.speak(1, 2);
        due("20: later than TENTH now", x.said(0, 11), 0);
        x.go(1);
        due("20: BEGAN ahead of when it is HEARD", x.said(0, 11), 1);
        x.delay(0, 1, 1);
        due("20: by the DELAY now", x.said(0, 11), 0);
        x.speak(2, 1);
        x.hush(2);
        x.go(1);
        due("20: not spoken", x.said(0, 12), NONE);
    }

    private static void misjoined() {
        LongLine x = silent(2);
        x.delay(0, 1, 5);
        x.speak(1, 2);
        x.go(4);
        due("21: MEANT", x.yes(0), 0);
        x.go(2);
        x.speak(1, 1);
        x.go(3);
        due("21: not HEARD yet", x.misjoined(), 0);
        x.go(1);
        due("21: TAKEN for another one", x.misjoined(), 1);
        x.delay(0, 1, 0);
        due("21: by the DELAY now", x.misjoined(), 0);
        x.delay(0, 1, 4);
        due("21: HEARD in 9, and the other one BEGAN in 7", x.misjoined(), 1);
        x.undo();
        x.undo();
        x.yes(1);
        x.go(20);
        due("21: one that MEANT none", x.said(1, 2), NONE);
        due("21: doesn't count", x.misjoined(), 1);
    }

    private static void whose() {
        LongLine x = silent(2);
        x.speak(0, 3);
        x.go(9);
        x.speak(0, 5);
        x.go(11);
        x.speak(1, 1);
        x.go(1);
        // END 0: 1 .. 4 and 10 .. 15
        due("22: the later one", x.whose(0, 20, 0, 8, 1, false), 2);
        due("22: the later one", x.whose(0, 20, 0, 8, 1, true), 3);
        due("22: the earlier one", x.whose(0, 20, 0, 8, 0, false), 1);
        due("22: the earlier one", x.whose(0, 20, 0, 8, 0, true), 3);
        due("22: from 5 on", x.whose(0, 20, 5, 8, 1, false), 1);
        due("22: from 5 on", x.whose(0, 20, 5, 8, 1, true), 4);
        due("22: one way alone", x.whose(0, 4, 0, 0, 0, false), 1);
        due("22: one way alone", x.whose(0, 3, 0, 0, 0, false), 0);
        due("22: surely not", x.whose(0, 3, 0, 0, 0, true), 1);
        due("22: of another END", x.whose(1, 20, 0, 8, 1, false), 0);
        due("22: of another END", x.whose(1, 20, 0, 8, 1, true), 1);
        due("22: too far", x.whose(0, 9000, 0, 122, 1, false), 1);
        due("22: too early", x.whose(0, 0, 0, 122, 1, false), 0);
        int[][] others = {{2, 20, 0, 8, 1}, {-1, 20, 0, 8, 1}, {0, -1, 0, 8, 1}, {0, 9001, 0, 8, 1}, {0, 20, -1, 8, 1},
            {0, 20, 9, 8, 1}, {0, 20, 0, 123, 1}, {0, 20, 0, 8, 3}, {0, 20, 0, 8, -1}};
        for (int[] o : others) {
            due("22: others", x.whose(o[0], o[1], o[2], o[3], o[4], true), NONE);
        }
    }

    private static void first() {
        LongLine x = silent(3);
        x.delay(0, 2, 6);
        x.speak(0, 1);
        x.go(4);
        x.speak(1, 1);
        x.go(2);
        x.speak(2, 3);
        x.hush(2);
        // BEGAN in 1, 5 and 7
        due("23: by THE CLOCK", x.first(1, 0, NONE), 0);
        due("23: for END 0", x.first(0, 1, 0), 0);
        due("23: for END 1", x.first(1, 0, 1), 0);
        due("23: for END 2 in 8 and 6", x.first(0, 1, 2), 1);
        due("23: one that was not spoken", x.first(0, 2, 2), 2);
        x.delay(0, 2, 5);
        due("23: both at once", x.first(0, 2, 2), -2);
        x.delay(0, 2, 4);
        due("23: both at once", x.first(0, 1, 2), -2);
        due("23: one's own", x.first(0, 1, 1), 0);
        due("23: alike", x.first(1, 1, NONE), NONE);
        due("23: no TURN", x.first(0, 3, NONE), NONE);
        due("23: no TURN", x.first(-1, 0, NONE), NONE);
        due("23: no END", x.first(0, 1, 3), NONE);
        due("23: no END", x.first(0, 1, -2), NONE);
    }

    private static void cold() {
        LongLine x = silent(2);
        x.delay(0, 1, 2);
        x.delay(1, 0, 1);
        x.speak(1, 3);
        x.go(5);
        x.speak(0, 2);
        x.go(2);
        due("24: not HEARD yet", x.cold(0, 1, false), 0);
        x.go(2);
        // END 1 ENDED in 4, and HEARS what BEGAN in 6 in 9
        due("24: a gap of 5", x.cold(0, 1, false), 5);
        due("24: to one who knows", x.cold(0, 1, true), 0);
        x.delay(0, 1, 1);
        x.delay(1, 0, 0);
        due("24: by the DELAYS now", x.cold(0, 1, false), 4);
        due("24: by the DELAYS now", x.cold(0, 1, true), 1);
        tell(x, "wait 999;cold gap*10+who+ends*100+ruled;");
        x.by(1);
        due("24: by a law", x.cold(0, 1, false), 240);
        x.speak(1, 1);
        x.go(3);
        x.speak(1, 1);
        x.speak(0, 1);
        x.go(9);
        due("24: not, if it begins again itself", x.cold(0, 1, false), 240 + 200 + 10 * 1);
        due("24: cold of each, together", x.cold(0, 1, true), 2 * 200 + 10);
        due("24: the other way", x.cold(1, 0, false), 231 + 201);
        due("24: to itself", x.cold(1, 1, false), NONE);
        due("24: no END", x.cold(2, 1, false), NONE);
        due("24: no END", x.cold(0, -1, false), NONE);
        coldEdges();
        LongLine y = silent(2);
        tell(y, "wait 999;cold 9999*2;");
        y.by(1);
        y.speak(1, 1);
        y.go(2);
        y.speak(0, 1);
        y.hush(0);
        y.go(4);
        due("24: none for what was not spoken", y.cold(0, 1, false), 0);
        y.speak(0, 1);
        y.go(3);
        due("24: 9999 at most", y.cold(0, 1, false), 9999);
    }

    /** END 1 says something in 1, END 0 in 4 (HEARD in 5), and END 1 again from a TENTH on. */
    private static int coldIfAgainIn(int tenth) {
        LongLine x = silent(2);
        x.speak(1, 1);
        for (int t = 1; t <= 12; t++) {
            if (t == 4) {
                x.speak(0, 1);
            }
            if (t == tenth) {
                x.speak(1, 9);
            }
            x.go(1);
        }
        return x.cold(0, 1, false);
    }

    private static void coldEdges() {
        due("24: its own BEGAN in its ENDED", coldIfAgainIn(3), 0);
        due("24: its own BEGAN in the TENTH in which it HEARS", coldIfAgainIn(5), 0);
        due("24: its own BEGAN later", coldIfAgainIn(6), 3);
        LongLine x = silent(2);
        x.speak(0, 1);
        x.speak(1, 1);
        x.go(3);
        due("24: HEARD in its ENDED", x.cold(0, 1, false), 0);
        // END 1 speaks in 1 .. 3, 4 .. 6, .. and HEARS END 0 in 6
        LongLine y = new LongLine();
        y.tellEnd(99, 0, 0, 1);
        y.tellEnd(0, 0, 0, 3);
        y.go(4);
        y.speak(0, 1);
        y.go(4);
        due("24: ENDED and BEGAN in one TENTH", y.cold(0, 1, false), 0);
        tell(x, "cold 7;");
        x.by(1);
        due("24: a gap of 0", x.cold(0, 1, false), 7);
    }

    private static void haste() {
        LongLine x = silent(2);
        x.delay(0, 1, 2);
        x.delay(1, 0, 1);
        x.speak(1, 9);
        x.go(2);
        x.speak(0, 1);
        x.go(3);
        // END 0 BEGAN in 3, is HEARD in 6; END 1 BEGAN in 1, and END 0 could HEAR it in 3
        due("25: not HEARD yet", x.haste(0, 1, false), 0);
        x.go(1);
        due("25: one", x.haste(0, 1, false), 1);
        due("25: not later than it could HEAR", x.haste(0, 1, true), 0);
        x.delay(1, 0, 0);
        due("25: by the DELAY now", x.haste(0, 1, true), 1);
        due("25: the other way", x.haste(1, 0, false), 0);
        x.speak(0, 1);
        x.go(2);
        tell(x, "wait 999;haste into*10+who+ends*100+ruled;");
        x.by(1);
        // the second BEGAN in 7 and is HEARD in 10, when END 1 no longer speaks
        x.go(5);
        due("25: by a law", x.haste(0, 1, false), 250);
        x.delay(0, 1, 1);
        due("25: into 4 and 8", x.haste(0, 1, false), 240 + 280);
        due("25: to itself", x.haste(0, 0, true), NONE);
        due("25: no END", x.haste(0, 2, true), NONE);
        due("25: no END", x.haste(-1, 0, true), NONE);
        LongLine z = silent(2);
        z.speak(0, 2);
        z.go(1);
        z.speak(1, 2);
        z.go(5);
        // END 1 HEARS it begin in 2, in which it begins itself; END 0 HEARS END 1 in its own ENDED
        due("25: into 0", z.haste(0, 1, false), 1);
        due("25: not in its ENDED", z.haste(1, 0, false), 0);
        LongLine y = silent(2);
        tell(y, "wait 999;haste 0-1;");
        y.by(1);
        y.speak(0, 9);
        y.go(1);
        y.speak(1, 9);
        y.go(3);
        due("25: 0 at least", y.haste(1, 0, false), 0);
        y.by(0);
        due("25: 1 without a law", y.haste(1, 0, false), 1);
    }

    private static void rules() {
        LongLine x = new LongLine();
        x.tellEnd(2, 0, 0, 3);
        x.tellEnd(2, 0, 0, 3);
        x.go(1);
        // by RULE 0 both speak in 3 .. 5, 10 .. 12: HEARD in 4, 5 (LOST) and 6 (CLEAR)
        due("26: CLEAR by RULE 0", x.rules(0, 5, false), 2);
        due("26: LOST by RULE 0", x.rules(0, 5, true), 4);
        // PATIENCE is found already, so the first ones are alike by RULE 1
        due("26: PATIENCE stays", x.rules(1, 5, true), 4);
        due("26: not the RULE", x.about(2), 0);
        due("26: nor TENTH", x.about(1), 1);
        due("26: nor TURNS", x.turn(NONE, 0), 0);
        due("26: nor STEPS", x.about(6), 1);
        x.undo();
        // by RULE 1 END 0 speaks in 3 .. 5, 8 .. 10 and END 1 is SILENT
        due("26: CLEAR by RULE 1", x.rules(1, 11, false), 6);
        due("26: LOST by RULE 1", x.rules(1, 11, true), 0);
        due("26: others", x.rules(4, 5, false), NONE);
        due("26: others", x.rules(-1, 5, false), NONE);
        due("26: others", x.rules(0, 0, false), NONE);
        due("26: others", x.rules(0, 3001, false), NONE);
        LongLine y = new LongLine();
        y.tellEnd(0, 0, 0, 1);
        y.tellEnd(99, 0, 0, 1);
        due("26: 90 TURNS don't bound it", y.rules(0, 3000, false), 2999);
        for (int i = 0; i < 30; i++) {
            y.go(300);
        }
        y.undo();
        y.go(300);
        due("26: nor do 9000", y.rules(0, 300, false), 299);
        tell(y, "wait if ruled=2 then 9 else 0 end;");
        y.by(0);
        due("26: by the laws, with the told RULE", y.rules(2, 20, false), 2);
    }

    private static void bestRule() {
        LongLine x = new LongLine();
        x.tellEnd(2, 0, 0, 3);
        x.tellEnd(2, 0, 0, 3);
        due("27: unlike", x.bestRule(11), 1);
        due("27: of like ones the lowest", x.bestRule(1), 0);
        due("27: others", x.bestRule(0), NONE);
        due("27: others", x.bestRule(3001), NONE);
        due("27: without ENDS", new LongLine().bestRule(3000), 0);
        int best = x.bestRule(3000);
        int most = 0;
        for (int r = 0; r < 4; r++) {
            most = Math.max(most, x.rules(r, 3000, false));
        }
        due("27: most CLEAR", x.rules(best, 3000, false), most);
        LongLine w = new LongLine();
        w.tellEnd(90, 0, 0, 3);
        w.tellEnd(90, 0, 0, 3);
        w.speak(0, 3);
        due("27: over", w.bestRule(80), 3);
        LongLine y = new LongLine();
        y.tellEnd(2, 0, 0, 2);
        y.tellEnd(2, 0, 0, 2);
        y.delay(0, 1, 60);
        // in 6 TENTHS one is CLEAR and one LOST by RULE 0 (the way back), by RULE 2 none is
        due("27: CLEAR by RULE 0", y.rules(0, 5, false), 1);
        due("27: LOST by RULE 0", y.rules(0, 5, true), 1);
        due("27: most CLEAR ahead of fewest LOST", y.bestRule(5), 0);
        LongLine z = new LongLine();
        z.tellEnd(2, 0, 0, 2);
        z.tellEnd(2, 0, 0, 2);
        z.delay(0, 1, 60);
        due("27: of like ones the fewest LOST", z.bestRule(4), 1);
        due("27: both have none CLEAR", z.rules(0, 4, false) + z.rules(1, 4, false), 0);
    }

    private static void price() {
        LongLine x = new LongLine();
        due("28: at first 0", x.pence(9000), 0);
        due("28: most", x.price(99, 99, 99), true);
        due("28: most", x.pence(9000), 15 * 99);
        int[][] others = {{-1, 0, 0}, {100, 0, 0}, {0, -1, 0}, {0, 100, 0}, {0, 0, -1}, {0, 0, 100}};
        for (int[] o : others) {
            due("28: others", x.price(o[0], o[1], o[2]), false);
        }
        due("28: it stays", x.pence(9000), 15 * 99);
        due("28: the same again", x.price(99, 99, 99), true);
        due("28: least", x.price(0, 0, 0), true);
        dueRow("28: refused", refusals(x), 6, 0, 0);
        due("28: no STEP", x.about(6), 0);
    }

    private static void pence() {
        LongLine x = new LongLine();
        x.price(10, 3, 2);
        int[][] all = {{0, 0}, {1, 10}, {600, 10}, {601, 20}, {1200, 20}, {1201, 23}, {1800, 23}, {9000, 59}};
        for (int[] one : all) {
            due("29: " + one[0] + " TENTHS", x.pence(one[0]), one[1]);
        }
        due("29: others", x.pence(-1), NONE);
        due("29: others", x.pence(9001), NONE);
        x.price(10, 3, 0);
        due("29: behind none", x.pence(601), 6);
    }

    private static void forPence() {
        LongLine x = new LongLine();
        x.tellEnd(0, 0, 0, 1);
        x.tellEnd(99, 0, 0, 1);
        due("30: for nothing", x.forPence(0, 0), 2999);
        x.price(10, 3, 1);
        due("30: not a minute", x.forPence(9, 0), 0);
        due("30: a minute", x.forPence(10, 0), 599);
        due("30: a minute", x.forPence(12, 0), 599);
        due("30: two", x.forPence(13, 0), 1199);
        due("30: 3000 TENTHS at most", x.forPence(9999, 0), 2999);
        due("30: by a RULE", x.forPence(10, 3), x.rules(3, 600, false));
        due("30: others", x.forPence(-1, 0), NONE);
        due("30: others", x.forPence(10000, 0), NONE);
        due("30: others", x.forPence(5, 4), NONE);
        due("30: others", x.forPence(5, -1), NONE);
    }

    private static void comes() {
        LongLine x = new LongLine();
        due("31: alike", x.comes(5, 5, 0, 0, 4, 2), NONE);
        due("31: apart", x.comes(5, 9, 0, 0, 4, 2), 8);
        due("31: the other one first", x.comes(9, 5, 0, 0, 4, 2), 8);
        due("31: HEARD behind their ends", x.comes(5, 6, 3, 3, 4, 2), 0);
        // they begin in 0 0, 14 15, 28 30, 42 45, and in 56 just the one
        due("31: further apart each time", x.comes(5, 6, 3, 3, 9, 2), 56);
        // both first ones are HEARD when both are SILENT
        due("31: the first ones", x.comes(99, 99, 60, 60, 4, 0), 0);
        due("31: the first of one END", x.comes(99, 0, 60, 0, 3, 0), x.comes(0, 99, 0, 60, 3, 0));
        // one that says all in a TENTH: HEARD in TENTH 1, in which both are SILENT
        due("31: a TENTH each", x.comes(1, 1, 0, 0, 1, 0), 0);
        due("31: without a wait", x.comes(0, 0, 0, 0, 1, 0), 0);
        due("31: stops 1", x.comes(0, 0, 0, 0, 1, 1), NONE);
        int[][] others = {{-1, 0, 0, 0, 1, 0}, {100, 0, 0, 0, 1, 0}, {0, -1, 0, 0, 1, 0}, {0, 100, 0, 0, 1, 0},
            {0, 9, -1, 0, 1, 0}, {0, 9, 61, 0, 1, 0}, {0, 9, 0, -1, 1, 0}, {0, 9, 0, 61, 1, 0}, {0, 9, 0, 0, 0, 0},
            {0, 9, 0, 0, 100, 0}, {0, 9, 0, 0, 1, -1}, {0, 9, 0, 0, 1, 100}};
        for (int[] o : others) {
            due("31: others", x.comes(o[0], o[1], o[2], o[3], o[4], o[5]), NONE);
        }
        dueRow("31: changes nothing", refusals(x), 0, 0, 0);
    }

    private static void apart() {
        LongLine x = new LongLine();
        int count = 0;
        for (int i = 0; i < 625; i++) {
            if (x.comes(i / 25, i % 25, 2, 1, 6, 3) != NONE) {
                due("32: the next", x.apart(2, 1, 6, 3, count), i);
                count++;
            }
        }
        due("32: how many", x.apart(2, 1, 6, 3, NONE), count);
        due("32: none such", x.apart(2, 1, 6, 3, count), NONE);
        due("32: none such", x.apart(2, 1, 6, 3, -2), NONE);
        due("32: some of them", count > 300 && count < 625, true);
        int[][] unlike = {{2, 1, 6, 3}, {9, 1, 6, 3}, {9, 30, 6, 3}, {9, 30, 40, 3}, {9, 30, 40, 0}, {9, 30, 40, 3}};
        for (int[] u : unlike) {
            due("32: other numbers", x.apart(u[0], u[1], u[2], u[3], NONE),
                new LongLine().apart(u[0], u[1], u[2], u[3], NONE));
            x.comes(1, 2, u[0], u[1], u[2], u[3]);
            due("32: the same numbers", x.apart(u[0], u[1], u[2], u[3], 0), new LongLine().apart(u[0], u[1], u[2], u[3], 0));
        }
        int[][] others = {{-1, 0, 1, 0}, {61, 0, 1, 0}, {0, -1, 1, 0}, {0, 61, 1, 0}, {0, 0, 0, 0}, {0, 0, 100, 0},
            {0, 0, 1, -1}, {0, 0, 1, 100}};
        for (int[] o : others) {
            due("32: others", x.apart(o[0], o[1], o[2], o[3], NONE), NONE);
        }
    }

    private static void drawn() {
        LongLine x = new LongLine();
        due("33: upper", x.drawn(0, 0, 1, 1, false), 1);
        due("33: lower", x.drawn(0, 0, 1, 1, true), 2);
        // of 0 .. 2 and 0 .. 3: b is 2 more at least (0 2, 0 3, 1 3), or a is 3 more
        due("33: unlike", x.drawn(1, 2, 2, 3, false), 1);
        due("33: unlike", x.drawn(1, 2, 2, 3, true), 4);
        due("33: never", x.drawn(24, 60, 24, 24, false), 0);
        due("33: never", x.drawn(24, 60, 24, 24, true), 1);
        due("33: once", x.drawn(23, 60, 24, 24, true), 625);
        int[][] others = {{-1, 0, 1, 1}, {61, 0, 1, 1}, {0, -1, 1, 1}, {0, 61, 1, 1}, {0, 0, -1, 1}, {0, 0, 25, 1},
            {0, 0, 1, -1}, {0, 0, 1, 25}};
        for (int[] o : others) {
            due("33: others", x.drawn(o[0], o[1], o[2], o[3], true), NONE);
        }
    }

    private static void wide() {
        LongLine x = new LongLine();
        due("34: without DELAYS", x.wide(0, 0), 1);
        due("34: never", x.wide(24, 24), NONE);
        due("34: just by 24", x.wide(23, 60), 24);
        // s is 2: (2 + 2) * 9 / 2 is 18; 3: 5 * 16 / 6 is 13.3; 4: 6 * 25 / 12 is 12.5; 5: 7 * 36 / 20 is 12.6
        due("34: with DELAYS", x.wide(1, 1), 4);
        // 2 and 3: 8 * 9 / 3 and 9 * 16 / 6
        due("34: of like ones the lowest", x.wide(0, 6), 2);
        due("34: others", x.wide(-1, 0), NONE);
        due("34: others", x.wide(61, 0), NONE);
        due("34: others", x.wide(0, -1), NONE);
        due("34: others", x.wide(0, 61), NONE);
    }

    private static void worth() {
        LongLine x = new LongLine();
        due("35: upper", x.worth(10, 6, 4, 5, false), 3);
        due("35: lower", x.worth(10, 6, 4, 5, true), 20);
        due("35: never kept", x.worth(10, 6, 4, 0, false), 0);
        due("35: never kept", x.worth(10, 6, 4, 0, true), 1);
        due("35: most", x.worth(1, 99, 0, 10, true), 100);
        due("35: a long DELAY", x.worth(1, 0, 99, 10, true), 1);
        int[][] others = {{0, 5, 5, 5}, {100, 5, 5, 5}, {5, -1, 5, 5}, {5, 100, 5, 5}, {5, 5, -1, 5}, {5, 5, 100, 5},
            {5, 5, 5, -1}, {5, 5, 5, 11}};
        for (int[] o : others) {
            due("35: others", x.worth(o[0], o[1], o[2], o[3], false), NONE);
        }
    }

    private static void agree() {
        LongLine x = new LongLine();
        due("36: NEEDS itself", x.agree(1, 1, 1), -2);
        due("36: the first", x.agree(1, 0, 0), 1);
        int[][] others = {{0, 1, 0}, {100, 1, 0}, {1, -1, 0}, {1, 100, 0}, {1, 1, 2}, {1, 1, -1}, {-2, 1, 0}};
        for (int[] o : others) {
            due("36: others", x.agree(o[0], o[1], o[2]), -2);
        }
        for (int i = 2; i <= 8; i++) {
            due("36: more", x.agree(99, 99, (1 << i - 1) - 1), i);
        }
        due("36: a ninth", x.agree(1, 1, 255), -2);
        due("36: a ninth that NEEDS what isn't told", x.agree(1, 1, 256), -2);
        dueRow("36: refused", refusals(x), 9, 1, 0);
        due("36: how many", x.about(7), 8);
        due("36: none any more", x.agree(NONE, LOW, HIGH), 0);
        due("36: how many", x.about(7), 0);
        due("36: no STEP", x.about(6), 0);
    }

    private static void least() {
        LongLine x = new LongLine();
        due("37: none told", x.least(1), NONE);
        due("37: nothing to save", x.least(0), 0);
        x.agree(5, 0, 0);
        x.agree(1, 20, 1);
        x.agree(6, 20, 0);
        due("37: of like ones fewer", x.least(20), 4);
        x.agree(6, 20, 0);
        due("37: of like ones the lowest", x.least(20), 4);
        due("37: with all it NEEDS, and fewer", x.least(21), 12);
        due("37: two", x.least(40), 12);
        due("37: all", x.least(60), 15);
        due("37: too much", x.least(61), NONE);
        x.agree(5, 20, 0);
        due("37: the fewest WORDS", x.least(20), 16);
        due("37: others", x.least(-1), NONE);
        due("37: others", x.least(1000), NONE);
        due("37: most", x.least(999), NONE);
    }

    private static void heard() {
        LongLine x = new LongLine();
        int[][] others = {{-2, 5, 0, 0}, {9001, 9001, 0, 0}, {5, 4, 0, 0}, {0, 9001, 0, 0}, {0, 5, -1, 0}, {0, 5, 3, 2},
            {0, 5, 0, 100}};
        for (int[] o : others) {
            due("38: others", x.heard(o[0], o[1], o[2], o[3]), -2);
        }
        due("38: edges", x.heard(9000, 9000, 99, 99), 1);
        for (int i = 2; i <= 8; i++) {
            due("38: more", x.heard(0, 9000, 0, 99), i);
        }
        due("38: a ninth", x.heard(0, 0, 0, 0), -2);
        due("38: a ninth, and wrong", x.heard(1, 0, 0, 0), -2);
        dueRow("38: refused", refusals(x), 8, 1, 0);
        due("38: how many", x.about(8), 8);
        due("38: none any more", x.heard(NONE, LOW, HIGH, LOW), 0);
        due("38: how many", x.about(8), 0);
    }

    private static void span() {
        LongLine x = new LongLine();
        due("39: without any", x.span(false), 0);
        due("39: without any", x.span(true), 122);
        x.heard(10, 30, 5, 30);
        due("39: 0 at least", x.span(false), 0);
        due("39: most", x.span(true), 15);
        x.heard(10, 30, 0, 9);
        due("39: least of all", x.span(false), 11);
        due("39: most of all", x.span(true), 15);
        x.heard(10, 30, 9, 9);
        due("39: one alone", x.span(false), 11);
        due("39: one alone", x.span(true), 11);
        x.heard(10, 30, 0, 8);
        due("39: none", x.span(false), NONE);
        due("39: none", x.span(true), NONE);
        x.heard(NONE, 0, 0, 0);
        x.heard(0, 150, 10, 40);
        due("39: 122 at most", x.span(true), 122);
        due("39: least", x.span(false), 110);
        x.heard(0, 300, 0, 0);
        due("39: more than can be", x.span(true), NONE);
    }

    private static void way() {
        LongLine x = new LongLine();
        x.tellEnd(0, 0, 2, 10);
        x.tellEnd(0, 0, 3, 10);
        x.tellEnd(0, 0, 0, 10);
        x.tellEnd(0, 0, 1, 1);
        due("40: the sooner one", x.way(0, 1, 0), 1);
        due("40: the other way round", x.way(1, 0, 0), 2);
        due("40: who comes later", x.way(0, 1, 1), 1);
        x.delay(1, 0, 3);
        // END 1 is PRESSED from a TENTH behind its first on; END 0 has said all in 10
        due("40: by a DELAY", x.way(0, 1, 6), 2);
        due("40: PRESSED when all is said", x.way(0, 1, 5), 3);
        x.delay(0, 1, 3);
        due("40: both", x.way(0, 1, 1), 3);
        due("40: one that never stops", x.way(2, 0, 3), 2);
        due("40: much later", x.way(2, 0, 99), 0);
        // a TENTH that is spoken as one begins is not PRESSED yet
        due("40: it says its TENTH and yields", x.way(2, 3, 5), 2);
        due("40: HEARD no longer", x.way(2, 3, 10), 0);
        due("40: laws don't matter", tell(x, "stops 99;long 1;wait 5;"), 0);
        x.by(0);
        due("40: laws don't matter", x.way(0, 1, 1), 3);
        LongLine y = new LongLine();
        y.tellEnd(0, 0, 3, 9);
        y.tellEnd(0, 0, 0, 3);
        y.tellEnd(0, 0, 0, 2);
        due("40: PRESSED just long enough", y.way(0, 1, 2), 1);
        due("40: not long enough", y.way(0, 2, 2), 0);
        y.delay(1, 0, 5);
        due("40: all was said ahead of it", y.way(0, 1, 2), 0);
        due("40: in the last TENTH", y.way(0, 1, 1), 1);
        LongLine z = new LongLine();
        z.tellEnd(0, 0, 0, 99);
        z.tellEnd(0, 0, 99, 99);
        due("40: in the very last TENTH", z.way(0, 1, 0), 2);
        due("40: alike", x.way(1, 1, 0), NONE);
        due("40: no END", x.way(4, 1, 0), NONE);
        due("40: no END", x.way(0, -1, 0), NONE);
        due("40: below", x.way(0, 1, -1), NONE);
        due("40: above", x.way(0, 1, 100), NONE);
    }

    private static void refused() {
        LongLine x = new LongLine();
        due("41: others", x.refused(3), NONE);
        due("41: others", x.refused(-1), NONE);
        x.tellEnd(0, 0, 0, 0);
        x.undo();
        x.undo();
        for (int i = 0; i < 16; i++) {
            x.feed(0, 0, 0, 0, 0);
        }
        dueRow("41: by each", refusals(x), 1, 1, 2);
        x.text();
        dueRow("41: texts with a FAULT don't count", refusals(x), 1, 1, 2);
        x.of(5, 5);
        x.turn(9, 9);
        x.comes(-1, 0, 0, 0, 0, 0);
        x.whose(9, 9, 9, 9, 9, true);
        x.forPence(-1, 0);
        x.least(-1);
        dueRow("41: what is asked doesn't count", refusals(x), 1, 1, 2);
        x.image();
        x.seed(-1);
        x.rule(0);
        dueRow("41: more", refusals(x), 2, 1, 3);
        x.back();
        dueRow("41: an image has them", refusals(x), 1, 1, 2);
        tell(x, "rule 0;");
        due("41: what couldn't be", x.played(0), 0);
        dueRow("41: counts in what was PLAYED", refusals(x), 1, 1, 3);
    }

    private static void image() {
        LongLine x = new LongLine();
        due("42: TENTH", x.image(), 0);
        x.go(7);
        due("42: TENTH", x.image(), 7);
        x.go(7);
        due("42: back to it", x.back(), 7);
        due("42: STEPS", x.about(6), 1);
        x.undo();
        due("42: STEPS as well", x.about(1), 0);
        due("42: it stays", x.back(), 7);
        due("42: no STEP", x.about(6), 1);
        x.undo();
        x.rule(2);
        x.go(50);
        x.image();
        x.undo();
        x.undo();
        for (int i = 0; i < 35; i++) {
            x.go(2);
        }
        due("42: back to it", x.back(), 50);
        due("42: a STEP", x.undo(), 1);
        due("42: RULE", x.about(2), 2);
        due("42: a STEP", x.undo(), 0);
        dueRow("42: ahead of all", new int[] {x.about(1), x.about(2)}, 0, 0);
    }

    private static void back() {
        LongLine x = new LongLine();
        x.tellEnd(1, 0, 0, 2);
        x.tellEnd(4, 0, 0, 2);
        tell(x, "wait 3;");
        x.by(0);
        x.price(7, 7, 7);
        x.agree(3, 4, 0);
        x.agree(5, 9, 1);
        x.heard(1, 50, 2, 3);
        x.speak(0, 5);
        x.go(3);
        x.delay(1, 0, 9);
        x.yes(1);
        due("43: the image", x.image(), 3);
        int[] before = whole(x, 2);
        x.tellEnd(0, 0, 0, 1);
        tell(x, "long 4;");
        x.by(1);
        x.price(1, 1, 1);
        x.agree(NONE, 0, 0);
        x.agree(9, 9, 0);
        x.heard(NONE, 0, 0, 0);
        x.heard(0, 20, 0, 0);
        x.undo();
        x.undo();
        x.undo();
        x.hush(0);
        x.speak(1, 1);
        x.rule(3);
        x.go(90);
        x.seed(4);
        putOnTape(x, "go 1;");
        due("43: TENTH", x.back(), 3);
        dueRow("43: all that is told in I", whole(x, 2), before);
        dueRow("43: the rest", new int[] {x.about(0), x.about(4), x.about(5), x.about(6), x.about(7), x.about(8)},
            2, 1, 0, 4, 2, 1);
        due("43: PRICE", x.pence(1), 7);
        due("43: AGREED", x.least(13), 3);
        due("43: AGREED", x.least(14), NONE);
        due("43: HEARD", x.span(true), 47);
        due("43: HEARD", x.span(false), 46);
        due("43: the tape stays", x.about(9), 5);
        due("43: TEXTS told behind it are gone", x.played(1), -2);
        due("43: another one is told", x.text(), 1);
        due("43: it is another one", x.played(1), NONE);
        due("43: STEPS", x.undo(), 4);
        due("43: the YES", x.undo(), 3);
        due("43: the DELAY", x.undo(), 2);
        due("43: the TENTHS", x.undo(), 1);
        due("43: SPEAKING goes on", x.turn(0, 3), NONE);
        due("43: it stays", x.back(), 3);
        dueRow("43: all again", whole(x, 2), before);
    }

    private static void about() {
        LongLine x = new LongLine();
        x.tellEnd(1, 0, 0, 2);
        x.tellEnd(1, 0, 0, 2);
        x.tellEnd(1, 0, 0, 2);
        x.rule(2);
        x.seed(100);
        x.go(5);
        tell(x, "");
        tell(x, "");
        x.by(1);
        x.agree(1, 1, 0);
        x.heard(0, 1, 0, 1);
        x.heard(0, 1, 0, 1);
        x.feed(0, 0, 0, 0, 0);
        x.end(13);
        int[] all = {3, 5, 2, 313, 2, 1, 2, 1, 2, 13};
        for (int what = 0; what < 10; what++) {
            due("44: about " + what, x.about(what), all[what]);
        }
        due("44: others", x.about(10), -2);
        due("44: others", x.about(-1), -2);
        due("44: others", x.about(LOW), -2);
    }

    public static void main(String[] args) {
        newObject();
        tellEnd();
        seed();
        delay();
        rule();
        speak();
        hush();
        yes();
        go();
        feed();
        end();
        text();
        fault();
        by();
        played();
        undo();
        of();
        through();
        turn();
        said();
        misjoined();
        whose();
        first();
        cold();
        haste();
        rules();
        bestRule();
        price();
        pence();
        forPence();
        comes();
        apart();
        drawn();
        wide();
        worth();
        agree();
        least();
        heard();
        span();
        way();
        refused();
        image();
        back();
        about();
        System.out.println(wrong == 0 ? "each promise is kept" : wrong + " answers are not as due");
        if (wrong != 0) {
            System.exit(1);
        }
    }
}
