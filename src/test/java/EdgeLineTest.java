/** The edges that part I of the document names: ENDS, TENTHS, TURNS, YESES and STEPS. */
public final class EdgeLineTest {
    private static final int NONE = Edge.NONE;

    private EdgeLineTest() {
    }

    // ---- a new object; ENDS ----

    private static void newObject() {
        Edge.says("`LongLine()`: No ENDS; THE IMAGE is this.");
        LongLine x = new LongLine();
        Edge.due("ENDS", x.about(0), 0);
        Edge.due("END 0", x.of(0, 0), -2);
        x.tellEnd(1, 2, 3, 4);
        x.tellEnd(4, 3, 2, 1);
        x.delay(0, 1, 7);
        x.rule(3);
        x.seed(9);
        x.go(40);
        x.yes(0);
        Edge.tell(x, "rule 1;");
        x.by(0);
        x.price(1, 2, 3);
        x.agree(1, 2, 0);
        x.heard(1, 2, 0, 1);
        Edge.tell(x, "");
        x.undo();
        x.hush(3);
        Edge.due("back()", x.back(), 0);
        Edge.dueRow("REFUSED", Edge.refusals(x), 0, 0, 0);
        LongLine fresh = new LongLine();
        fresh.text();
        fresh.back();
        Edge.alike("behind back()", x, fresh);
        Edge.says("TENTH 0 .. 9000 (at first 0). X: at first 13.");
        Edge.dueRow("TENTH and X", new int[] {new LongLine().about(1), new LongLine().about(3)}, 0, 13);
        Edge.says("RULE 0 .. 3 (at first 0)");
        Edge.due("RULE", new LongLine().about(2), 0);
    }

    private static void tellEnd() {
        Edge.says("ENDS 0 .. 3 (told one by one)");
        LongLine x = new LongLine();
        for (int e = 0; e < 4; e++) {
            Edge.due("END " + e + " ahead of it", x.of(e, 0), -2);
            Edge.due("END " + e, x.tellEnd(e + 10, e + 20, e + 30, e + 40), e);
            Edge.due("ENDS", x.about(0), e + 1);
        }
        for (int e = 0; e < 4; e++) {
            Edge.dueRow("as told", new int[] {x.of(e, 0), x.of(e, 1), x.of(e, 2), x.of(e, 3)},
                e + 10, e + 20, e + 30, e + 40);
        }
        Edge.says("An END: its number. NONE for others, or if there are 4.");
        Edge.refuses("a fifth", y -> Edge.ends(y, 4), y -> y.tellEnd(9, 0, 0, 5), NONE, 1);
        Edge.takes("a fourth", y -> Edge.ends(y, 3), y -> y.tellEnd(9, 0, 0, 5), NONE);
        Edge.says("WAIT (0 .. 99), SPREAD (0 .. 24), STOPS (0 .. 99), LENGTH (1 .. 99)");
        Edge.takesJust(0, 99, y -> { }, (y, n) -> y.tellEnd(n, 0, 0, 1), NONE, 0);
        Edge.takesJust(0, 24, y -> { }, (y, n) -> y.tellEnd(0, n, 0, 1), NONE, 0);
        Edge.takesJust(0, 99, y -> { }, (y, n) -> y.tellEnd(0, 0, n, 1), NONE, 0);
        Edge.takesJust(1, 99, y -> { }, (y, n) -> y.tellEnd(0, 0, 0, n), NONE, 0);
        Edge.says("of one the least");
        Edge.refuses("a fifth, and wrong", y -> Edge.ends(y, 4), y -> y.tellEnd(9, 0, 0, 0), NONE, 0);
        Edge.says("Each END is SILENT (at first) or SPEAKING; QUIET (at first 0): for how many TENTHS on end it "
            + "neither spoke nor heard anybody; PATIENCE (at first 0); PRESSED (0).");
        LongLine z = new LongLine();
        z.go(50);
        Edge.ends(z, 2);
        for (int what = 4; what <= 10; what++) {
            Edge.due("of(1, " + what + ")", z.of(1, what), what == 8 ? NONE : 0);
        }
        z.go(3);
        Edge.due("QUIET from when it was told", z.of(1, 5), 3);
    }

    private static void seed() {
        Edge.says("X is SEED (0 .. 9999) * 3 + 13: true. False for others.");
        Edge.takesJust(0, 9999, y -> y.seed(77), (y, n) -> Edge.flag(y.seed(n)), 0, 0);
        LongLine x = new LongLine();
        int[][] all = {{9999, 30010}, {0, 13}, {1, 16}};
        for (int[] one : all) {
            Edge.due("seed()", x.seed(one[0]), true);
            Edge.due("X by " + one[0], x.about(3), one[1]);
        }
    }

    private static void delay() {
        Edge.says("DELAY from one END to another (0 .. 60; told; at first 0)");
        LongLine x = new LongLine();
        Edge.ends(x, 4);
        for (int i = 0; i < 16; i++) {
            Edge.due("DELAY " + i / 4 + " to " + i % 4, x.of(i % 4, 20 + i / 4), 0);
        }
        Edge.takesJust(0, 60, y -> fiveLater(y, 2), (y, n) -> Edge.flag(y.delay(0, 1, n)), 0, 0);
        Edge.says("A DELAY: true. False for others (an END to itself), and if it is so already.");
        for (int e = 0; e < 2; e++) {
            int end = e;
            Edge.refuses("to itself", y -> fiveLater(y, 2), y -> Edge.flag(y.delay(end, end, 5)), 0, 0);
            Edge.refuses("to itself, as it is", y -> fiveLater(y, 2), y -> Edge.flag(y.delay(end, end, 0)), 0, 0);
        }
        Edge.refuses("at first 0", y -> Edge.ends(y, 2), y -> Edge.flag(y.delay(1, 0, 0)), 0, 2);
        Edge.refuses("so already", y -> fiveLater(y, 2), y -> Edge.flag(y.delay(0, 1, 5)), 0, 2);
        Edge.takes("the other way", y -> fiveLater(y, 2), y -> Edge.flag(y.delay(1, 0, 5)), 0);
        Edge.takesJust(0, 2, y -> fiveLater(y, 4), (y, n) -> Edge.flag(y.delay(n, 3, 9)), 0, 0);
        Edge.takesJust(1, 3, y -> fiveLater(y, 4), (y, n) -> Edge.flag(n == 0 ? y.delay(0, 0, 9) : y.delay(0, n, 9)), 0, 0);
        Edge.refuses("no END to it", y -> fiveLater(y, 2), y -> Edge.flag(y.delay(0, 2, 9)), 0, 0);
        Edge.refuses("no END from it", y -> fiveLater(y, 2), y -> Edge.flag(y.delay(2, 0, 9)), 0, 0);
        Edge.refuses("no ENDS", y -> { }, y -> Edge.flag(y.delay(0, 1, 9)), 0, 0);
    }

    private static void fiveLater(LongLine x, int ends) {
        Edge.ends(x, ends);
        x.delay(0, 1, 5);
    }

    private static void rule() {
        Edge.says("The RULE: true. False for others, and if it is so already.");
        Edge.takesJust(0, 3, y -> y.rule(1), (y, n) -> Edge.flag(y.rule(n)), 0, 0);
        for (int r = 0; r <= 3; r++) {
            int rule = r;
            Edge.refuses("so already", y -> y.rule(rule), y -> Edge.flag(y.rule(rule)), 0, 2);
        }
    }

    // ---- a TENTH goes by ----

    private static void hears() {
        Edge.says("an END HEARS in it each other one that spoke in the TENTH 1 and DELAY (from that one to it) ahead");
        for (int delay : new int[] {0, 1, 59, 60}) {
            LongLine x = Edge.silent(3);
            x.delay(0, 1, delay);
            x.speak(0, 1);
            x.go(1 + delay);
            Edge.due("not yet, by " + delay, x.through(0, 1, false), 0);
            Edge.due("not yet whom, by " + delay, x.of(1, 8), NONE);
            x.go(1);
            Edge.due("then, by " + delay, x.through(0, 1, false), 1);
            Edge.due("whom, by " + delay, x.of(1, 8), 0);
            Edge.due("QUIET by " + delay, x.of(1, 5), 0);
            x.go(1);
            Edge.due("no longer, by " + delay, x.through(0, 1, false), 1);
            Edge.due("QUIET again, by " + delay, x.of(1, 5), 1);
            Edge.due("another one in TENTH 2", x.of(2, 5), 1 + delay);
            Edge.due("not itself", x.of(0, 8), NONE);
        }
    }

    private static void pressed() {
        Edge.says("PRESSED is one more, if it HEARS anybody, else 0");
        LongLine x = Edge.silent(3);
        x.speak(0, 9);
        x.go(1);
        x.speak(1, 3);
        x.speak(2, 2);
        // END 1 speaks in 2 .. 4, END 2 in 2 and 3
        int[] pressed = {0, 1, 2, 3, 0};
        for (int i = 0; i < pressed.length; i++) {
            x.go(1);
            Edge.due("PRESSED in " + (2 + i), x.of(0, 7), pressed[i]);
        }
        Edge.says("If PRESSED is stops (and that is not 0), its TURN ends, YIELDED");
        LongLine y = Edge.stopping(0, 99, 98, 1);
        y.speak(0, 99);
        y.speak(1, 99);
        y.speak(2, 99);
        y.go(1);
        y.speak(3, 9);
        y.go(97);
        Edge.dueRow("STOPS 1: by the first", Edge.turnRow(y, 3), 3, 2, 9, 2, 2);
        Edge.dueRow("PRESSED in 98", new int[] {y.of(0, 7), y.of(1, 7), y.of(2, 7)}, 97, 97, 97);
        Edge.dueRow("none has yielded", new int[] {y.turn(0, 4), y.turn(1, 4), y.turn(2, 4)}, 0, 0, 0);
        y.go(1);
        Edge.dueRow("STOPS 98 in 99", Edge.turnRow(y, 2), 2, 1, 99, 99, 2);
        Edge.dueRow("STOPS 99 goes on", Edge.turnRow(y, 1), 1, 1, 99, NONE, 0);
        Edge.dueRow("STOPS 0 goes on", Edge.turnRow(y, 0), 0, 1, 99, NONE, 0);
        y.go(1);
        Edge.dueRow("STOPS 99 in 100", Edge.turnRow(y, 1), 1, 1, 99, 100, 2);
        Edge.dueRow("STOPS 0 has SAID all", Edge.turnRow(y, 0), 0, 1, 99, 100, 1);
        Edge.dueRow("YIELDED", new int[] {y.of(0, 10), y.of(1, 10), y.of(2, 10), y.of(3, 10)}, 0, 1, 1, 1);
        pressedBeyondStops();
    }

    private static void pressedBeyondStops() {
        LongLine x = new LongLine();
        Edge.tell(x, "wait 999;stops 1;");
        Edge.tell(x, "wait 999;stops 4;");
        x.tellEnd(99, 0, 0, 9);
        x.tellEnd(99, 0, 0, 9);
        x.speak(0, 9);
        x.speak(1, 9);
        x.go(3);
        x.by(0);
        x.go(1);
        Edge.due("PRESSED 3 is not stops 1", x.turn(0, 4), 0);
        x.by(1);
        x.go(1);
        Edge.due("PRESSED 4 is stops 4", x.turn(0, 4), 2);
    }

    private static void turnEnds() {
        Edge.says("else if it has spoken as many TENTHS as the TURN is LONG, its TURN ends, SAID; else it speaks in this TENTH");
        for (int length : new int[] {1, 2, 99}) {
            LongLine x = Edge.silent(2);
            x.speak(0, length);
            x.go(length);
            Edge.dueRow("LONG " + length + " goes on", Edge.turnRow(x, 0), 0, 1, length, NONE, 0);
            x.go(1);
            Edge.dueRow("LONG " + length, Edge.turnRow(x, 0), 0, 1, length, length + 1, 1);
            x.go(1);
            Edge.due("HEARD of LONG " + length, x.through(0, 1, false), length);
        }
        LongLine both = Edge.stopping(0, 2);
        both.speak(0, 2);
        both.speak(1, 2);
        both.go(3);
        Edge.due("PRESSED is stops, and all is said", both.turn(1, 4), 2);
        Edge.due("all is said alone", both.turn(0, 4), 1);
        Edge.says("Behind a TURN's end it is SILENT, QUIET 0 (and this is done for it, too:)");
        LongLine y = new LongLine();
        y.tellEnd(3, 0, 0, 2);
        y.tellEnd(99, 0, 0, 2);
        y.speak(0, 2);
        y.rule(3);
        y.go(3);
        Edge.dueRow("SILENT, QUIET 1, PATIENCE anew in 3", new int[] {y.of(0, 4), y.of(0, 5), y.of(0, 6)}, 0, 1, 9);
        y.speak(1, 9);
        y.speak(0, 2);
        y.go(3);
        Edge.due("it HEARS in the TENTH of its end", y.of(0, 8), 1);
        Edge.dueRow("QUIET 0, no PATIENCE anew", new int[] {y.of(0, 4), y.of(0, 5), y.of(0, 6)}, 0, 0, 9);
        LongLine z = new LongLine();
        z.tellEnd(0, 0, 0, 1);
        Edge.due("WAIT 0, LENGTH 1: one in each TENTH", z.go(5), 5);
        Edge.dueRow("it ends and the next begins", Edge.turnRow(z, 0), 0, 1, 1, 2, 1);
        Edge.due("the next", z.turn(1, 1), 2);
    }

    private static void silent() {
        Edge.says("one that is SILENT: if it HEARS anybody, QUIET is 0. Else, if QUIET is 0, PATIENCE is found anew");
        LongLine x = new LongLine();
        x.tellEnd(90, 0, 0, 5);
        x.tellEnd(20, 0, 0, 5);
        x.go(4);
        Edge.dueRow("QUIET and PATIENCE", new int[] {x.of(1, 5), x.of(1, 6)}, 4, 20);
        x.rule(1);
        x.go(4);
        Edge.dueRow("PATIENCE stays", new int[] {x.of(1, 5), x.of(1, 6)}, 8, 20);
        x.speak(0, 1);
        x.go(2);
        Edge.dueRow("it HEARS", new int[] {x.of(1, 5), x.of(1, 6)}, 0, 20);
        x.go(1);
        Edge.dueRow("PATIENCE anew", new int[] {x.of(1, 5), x.of(1, 6)}, 1, 30);
        Edge.says("then QUIET is one more; if it is above PATIENCE then, it begins a TURN, LONG as long says, and speaks "
            + "in this TENTH (PRESSED 0)");
        for (int wait : new int[] {0, 1, 99}) {
            LongLine y = new LongLine();
            y.tellEnd(wait, 0, 0, 7);
            if (wait > 0) {
                Edge.due("QUIET is PATIENCE " + wait, y.go(wait), 0);
                Edge.due("QUIET " + wait, y.of(0, 5), wait);
            }
            Edge.due("above PATIENCE " + wait, y.go(1), 1);
            Edge.dueRow("the TURN", Edge.turnRow(y, 0), 0, wait + 1, 7, NONE, 0);
            y.go(6);
            Edge.due("it spoke in that TENTH: not all yet", y.turn(0, 4), 0);
            y.go(1);
            Edge.due("it spoke in that TENTH: all", y.turn(0, 3), wait + 8);
        }
        LongLine z = Edge.stopping(0, 3);
        z.speak(0, 3);
        z.speak(1, 9);
        z.go(3);
        Edge.due("PRESSED", z.of(1, 7), 2);
        z.hush(1);
        z.by(NONE);
        z.go(101);
        Edge.due("it began", z.of(1, 4), 1);
        Edge.due("PRESSED 0", z.of(1, 7), 0);
    }

    // ---- PATIENCE ----

    private static void draws() {
        Edge.says("wait and a draw by SPREAD and 1 (no draw, if SPREAD is 0; by each RULE)");
        for (int rule = 0; rule <= 3; rule++) {
            LongLine x = new LongLine();
            x.tellEnd(9, 0, 0, 5);
            x.tellEnd(9, 0, 0, 5);
            x.rule(rule);
            x.go(1);
            Edge.due("SPREAD 0 by " + rule, x.about(3), 13);
            LongLine y = new LongLine();
            y.tellEnd(9, 0, 0, 5);
            y.tellEnd(9, 1, 0, 5);
            y.rule(rule);
            y.go(1);
            Edge.due("SPREAD 1 by " + rule, y.about(3), 2674);
        }
        LongLine next = new LongLine();
        next.tellEnd(9, 1, 0, 5);
        next.tellEnd(9, 0, 0, 5);
        next.rule(3);
        next.speak(1, 1);
        next.go(2);
        next.seed(0);
        next.go(1);
        Edge.due("a draw for the next one, too", next.about(3), 2674);
        Edge.due("which has PATIENCE 0", next.of(0, 6), 0);
        Edge.says("A draw by m: X mod m, X being (X * 197 + 113) mod 30091 then.");
        // SEED, SPREAD, what is drawn, X then: the least and the most that can be drawn, and X around 30091
        int[][] all = {{0, 24, 13, 2674}, {4, 24, 0, 5038}, {12, 24, 24, 9766}, {0, 1, 1, 2674}, {1, 1, 0, 3265},
            {46, 24, 1, 29860}, {47, 24, 4, 360}, {9999, 24, 10, 14247}, {5698, 24, 7, 0}};
        for (int[] one : all) {
            LongLine x = new LongLine();
            x.tellEnd(50, one[1], 0, 5);
            x.seed(one[0]);
            x.go(1);
            Edge.due("drawn by SEED " + one[0], x.of(0, 6), 50 + one[2]);
            Edge.due("X by SEED " + one[0], x.about(3), one[3]);
        }
        LongLine zero = new LongLine();
        zero.tellEnd(50, 24, 0, 5);
        zero.tellEnd(50, 24, 0, 5);
        zero.seed(5698);
        zero.go(1);
        Edge.dueRow("from X 0", new int[] {zero.of(1, 6), zero.about(3)}, 50, 113);
    }

    private static int patience(int rule, int count, int end) {
        LongLine x = new LongLine();
        for (int e = 0; e < count; e++) {
            x.tellEnd(99, 0, 0, 5);
        }
        x.rule(rule);
        x.go(1);
        return x.of(end, 6);
    }

    private static void unlike() {
        Edge.says("1 (unlike) 10 times the END's number more");
        for (int e = 0; e < 4; e++) {
            Edge.due("of END " + e, patience(1, 4, e), 99 + 10 * e);
            Edge.due("by RULE 0 of END " + e, patience(0, 4, e), 99);
        }
    }

    private static void whoCalled() {
        Edge.says("2 (who called leads) for END 0 that, for others that, if they have HEARD anybody in a TENTH no earlier "
            + "than their latest TURN ENDED (or ever, without one; this TENTH, too), else 9999");
        for (int e = 0; e < 4; e++) {
            Edge.due("ahead of any", patience(2, 4, e), e == 0 ? 99 : 9999);
        }
        // END 1 speaks in 1 .. 3 and its TURN ENDED in 4; END 0 says one TENTH, and is HEARD in the next
        int[][] all = {{1, 9999}, {2, 9999}, {3, 42}, {4, 42}};
        for (int[] one : all) {
            LongLine x = new LongLine();
            x.tellEnd(99, 0, 0, 5);
            x.tellEnd(42, 0, 0, 5);
            x.rule(2);
            x.speak(1, 3);
            if (one[0] > 1) {
                x.go(one[0] - 1);
            }
            x.speak(0, 1);
            x.go(7 - one[0]);
            Edge.due("TENTH", x.about(1), 6);
            Edge.due("HEARD in " + (one[0] + 1), x.of(1, 6), one[1]);
        }
        LongLine y = new LongLine();
        y.tellEnd(99, 0, 0, 5);
        y.tellEnd(42, 0, 0, 5);
        y.rule(2);
        y.speak(0, 1);
        y.go(3);
        Edge.due("ever, without a TURN", y.of(1, 6), 42);
        LongLine none = new LongLine();
        none.tellEnd(99, 0, 0, 5);
        none.tellEnd(42, 0, 0, 5);
        none.rule(2);
        none.speak(0, 1);
        none.go(2);
        none.speak(1, 3);
        none.hush(1);
        none.go(1);
        Edge.says("who spoke in none has no latest TURN");
        Edge.due("HEARD in 2, HUSHED ahead of TENTH 3", none.of(1, 6), 42);
        callIsTakenBack();
    }

    /** ENDS 0 and 1 by RULE 2: END 1 HEARS END 0 in TENTH 2, and waits 42 if that calls it. */
    private static LongLine called() {
        LongLine x = new LongLine();
        x.tellEnd(99, 0, 0, 5);
        x.tellEnd(42, 0, 0, 5);
        x.rule(2);
        x.speak(0, 1);
        x.go(2);
        return x;
    }

    private static void callIsTakenBack() {
        LongLine one = called();
        one.speak(1, 1);
        one.go(2);
        Edge.due("HEARD ahead of a TURN of one TENTH", one.of(1, 6), 9999);
        one.undo();
        one.undo();
        Edge.due("that TURN is taken back", one.go(1), 0);
        Edge.due("it was called", one.of(1, 6), 42);
        LongLine none = called();
        none.undo();
        none.undo();
        none.go(1);
        Edge.due("what it HEARD is taken back", none.of(1, 6), 9999);
    }

    private static void over() {
        Edge.says("3 (over) 0 for the END next (by number; behind the last one the first) to the one that it HEARD last "
            + "(of several in one TENTH the lowest), else that three times");
        Edge.due("without one HEARD", patience(3, 2, 0), 297);
        Edge.due("without one HEARD", patience(3, 2, 1), 297);
        Edge.due("one END alone", patience(3, 1, 0), 297);
        for (int count = 2; count <= 4; count++) {
            for (int from = 0; from < count; from++) {
                LongLine x = new LongLine();
                for (int e = 0; e < count; e++) {
                    x.tellEnd(99, 0, 0, 5);
                }
                x.rule(3);
                x.speak(from, 1);
                x.go(3);
                for (int e = 0; e < count; e++) {
                    Edge.due(e + " of " + count + " behind " + from, x.of(e, 6), e == (from + 1) % count ? 0 : 297);
                }
            }
        }
        LongLine several = new LongLine();
        for (int e = 0; e < 4; e++) {
            several.tellEnd(99, 0, 0, 5);
        }
        several.rule(3);
        several.speak(1, 1);
        several.speak(2, 1);
        several.go(3);
        Edge.dueRow("whom each HEARD last", new int[] {several.of(0, 8), several.of(1, 8), several.of(2, 8),
            several.of(3, 8)}, 1, 2, 1, 1);
        Edge.dueRow("PATIENCE", new int[] {several.of(0, 6), several.of(1, 6), several.of(2, 6), several.of(3, 6)},
            297, 297, 0, 297);
    }

    // ---- CLEAR and LOST ----

    private static void clearAndLost() {
        Edge.says("What an END HEARS in a TENTH of one alone, not speaking in it itself, is CLEAR from that one to it "
            + "(one TENTH more); else each that it HEARS is LOST (one more each)");
        for (int speakers = 1; speakers <= 3; speakers++) {
            LongLine x = Edge.silent(4);
            for (int e = 0; e < speakers; e++) {
                x.speak(e, 1);
            }
            x.go(2);
            for (int e = 0; e < 3; e++) {
                Edge.due("CLEAR of " + speakers, x.through(e, 3, false), speakers == 1 && e == 0 ? 1 : 0);
                Edge.due("LOST of " + speakers, x.through(e, 3, true), speakers > 1 && e < speakers ? 1 : 0);
            }
        }
        // END 0 is HEARD in 2 .. 5; END 1 speaks in 3 and 4
        LongLine y = Edge.silent(2);
        y.speak(0, 4);
        y.go(2);
        y.speak(1, 2);
        int[][] rows = {{1, 1}, {1, 2}, {2, 2}};
        for (int[] row : rows) {
            y.go(1);
            Edge.dueRow("CLEAR and LOST", new int[] {y.through(0, 1, false), y.through(0, 1, true)}, row);
        }
        // it yields in the TENTH in which it would have spoken
        LongLine z = Edge.stopping(0, 1);
        z.speak(0, 1);
        z.speak(1, 5);
        z.go(2);
        Edge.due("not speaking in it any longer", z.through(0, 1, false), 1);
        Edge.says("CLEAR TENTHS from one END to another (lost false), LOST ones. NONE for others (an END to itself).");
        for (boolean lost : new boolean[] {false, true}) {
            for (int[] pair : new int[][] {{0, 0}, {1, 1}, {2, 0}, {0, 2}, {-1, 0}, {0, -1}, {Edge.LOW, 1}, {1, Edge.HIGH}}) {
                Edge.asks("through()", x -> Edge.ends(x, 2), x -> x.through(pair[0], pair[1], lost), NONE);
            }
            Edge.asks("0 to 1", x -> Edge.ends(x, 2), x -> x.through(0, 1, lost), 0);
            Edge.asks("1 to 0", x -> Edge.ends(x, 2), x -> x.through(1, 0, lost), 0);
        }
    }

    // ---- TURNS ----

    /** So many TURNS of END 0 that were hushed ahead of their first TENTH. */
    private static void unspoken(LongLine x, int turns) {
        for (int i = 0; i < turns; i++) {
            x.speak(0, 1);
            x.hush(0);
        }
    }

    private static void ninety() {
        Edge.says("TURNS (90 at most; beyond, who would begin waits on: QUIET isn't made more in that TENTH)");
        LongLine x = new LongLine();
        x.tellEnd(0, 0, 0, 5);
        x.tellEnd(0, 4, 0, 5);
        x.tellEnd(2, 0, 0, 5);
        unspoken(x, 89);
        Edge.due("END 0 begins the 90th, END 1 waits on", x.go(1), 1);
        Edge.dueRow("the 90th", Edge.turnRow(x, 89), 0, 1, 5, NONE, 0);
        LongLine y = new LongLine();
        y.tellEnd(0, 0, 0, 5);
        y.tellEnd(0, 4, 0, 5);
        y.tellEnd(2, 0, 0, 5);
        unspoken(y, 90);
        int[][] rows = {{0, 0, 1, 0}, {0, 0, 2, 0}, {0, 0, 2, 0}, {0, 0, 2, 0}};
        for (int[] row : rows) {
            Edge.due("none begins", y.go(1), 0);
            Edge.dueRow("QUIET of END 0 and 2, SPEAKING", new int[] {y.of(0, 5), y.of(0, 4), y.of(2, 5), y.of(2, 4)}, row);
        }
        Edge.due("TURNS", y.turn(NONE, 0), 90);
        // END 1 draws 13 mod 5, and waits 3 TENTHS; its QUIET is no more than that
        Edge.dueRow("QUIET and PATIENCE of END 1", new int[] {y.of(1, 5), y.of(1, 6)}, 3, 3);
        Edge.says("SPEAK: the TURN. NONE for others, if there are 90, and if it is SPEAKING.");
        Edge.takes("the 90th", z -> unspokenOf(z, 89), z -> z.speak(1, 1), NONE);
        Edge.refuses("the 91st", z -> unspokenOf(z, 90), z -> z.speak(1, 1), NONE, 1);
        Edge.refuses("the 91st of none", z -> unspokenOf(z, 90), z -> z.speak(2, 1), NONE, 0);
        Edge.refuses("the 91st, LONG 0", z -> unspokenOf(z, 90), z -> z.speak(1, 0), NONE, 0);
        Edge.refuses("the 91st of one that is SPEAKING", z -> {
            unspokenOf(z, 89);
            z.speak(1, 1);
        }, z -> z.speak(1, 1), NONE, 1);
        Edge.due("the number of the 90th", ninetieth(), 89);
    }

    private static int ninetieth() {
        LongLine x = new LongLine();
        unspokenOf(x, 89);
        return x.speak(1, 1);
    }

    private static void unspokenOf(LongLine x, int turns) {
        Edge.ends(x, 2);
        unspoken(x, turns);
    }

    private static void neverSpoken() {
        Edge.says("TURNS of which no TENTH was spoken (HUSHED or YIELDED ahead of it) count in TURNS, of(), turns and cut and by BEGAN in FIRST alone");
        LongLine x = new LongLine();
        Edge.tell(x, "wait 900+turns*10+cut;");
        x.by(0);
        x.tellEnd(99, 0, 0, 5);
        x.tellEnd(99, 0, 1, 5);
        x.speak(0, 4);
        x.go(1);
        x.speak(1, 3);
        x.go(1);
        // END 1 HEARS END 0 in 2 and yields in it
        Edge.dueRow("YIELDED ahead of it", Edge.turnRow(x, 1), 1, 2, 3, 2, 2);
        x.speak(1, 3);
        x.hush(1);
        Edge.dueRow("HUSHED ahead of it", Edge.turnRow(x, 2), 1, 3, 3, 3, 3);
        Edge.due("in TURNS", x.turn(NONE, 0), 3);
        Edge.dueRow("in of()", new int[] {x.of(1, 9), x.of(1, 10)}, 2, 1);
        x.go(8);
        Edge.due("in turns and cut", x.of(1, 6), 921);
        Edge.due("in FIRST", x.first(0, 1, NONE), 0);
        Edge.due("in FIRST, as END 0 saw it", x.first(1, 2, 0), 1);
        x.delay(1, 0, 2);
        Edge.due("MEANT by none", x.yes(0), NONE);
        Edge.due("TAKEN of none", x.said(0, 11), NONE);
        Edge.dueRow("whose", new int[] {x.whose(1, 9, 0, 0, 1, false), x.whose(1, 9, 0, 0, 2, false)}, 0, 0);
        Edge.due("not COLD", x.cold(1, 0, false), 0);
        Edge.due("not hasty", x.haste(1, 0, false), 0);
        Edge.due("nor broken into", x.haste(0, 1, false), 0);
    }

    private static void speak() {
        Edge.says("SPEAK: one that is SILENT is SPEAKING, a TURN as LONG as told (1 .. 99), PRESSED 0 (in the next TENTH "
            + "it has spoken none yet)");
        Edge.takesJust(1, 99, y -> Edge.ends(y, 2), (y, n) -> y.speak(1, n), NONE, 0);
        Edge.takesJust(0, 1, y -> Edge.ends(y, 2), (y, n) -> y.speak(n, 5), NONE, 0);
        Edge.refuses("no ENDS", y -> { }, y -> y.speak(0, 5), NONE, 0);
        Edge.refuses("SPEAKING already", y -> {
            Edge.ends(y, 2);
            y.speak(1, 5);
        }, y -> y.speak(1, 5), NONE, 2);
        Edge.refuses("SPEAKING already, LONG 100", y -> {
            Edge.ends(y, 2);
            y.speak(1, 5);
        }, y -> y.speak(1, 100), NONE, 0);
        Edge.refuses("SPEAKING by itself", y -> {
            Edge.ends(y, 2);
            y.go(10);
        }, y -> y.speak(0, 5), NONE, 2);
        LongLine x = Edge.stopping(0, 0);
        x.speak(0, 9);
        x.speak(1, 9);
        x.go(4);
        x.hush(1);
        Edge.due("PRESSED", x.of(1, 7), 3);
        x.speak(1, 2);
        Edge.dueRow("SPEAKING, PRESSED 0", new int[] {x.of(1, 4), x.of(1, 7)}, 1, 0);
        Edge.dueRow("BEGAN in the next TENTH", Edge.turnRow(x, 2), 1, 5, 2, NONE, 0);
        x.go(2);
        Edge.due("two TENTHS, from the next on", x.turn(2, 3), NONE);
        x.go(1);
        Edge.due("all said", x.turn(2, 3), 7);
    }

    private static void hush() {
        Edge.says("HUSH: a TURN ends, HUSHED: ENDED is the next TENTH (what was spoken in TENTH now is spoken); QUIET is 0");
        LongLine x = Edge.silent(2);
        x.go(5);
        x.speak(0, 9);
        x.go(1);
        Edge.due("the TURN", x.hush(0), 0);
        Edge.dueRow("HUSHED", Edge.turnRow(x, 0), 0, 6, 9, 7, 3);
        Edge.dueRow("SILENT, QUIET 0", new int[] {x.of(0, 4), x.of(0, 5)}, 0, 0);
        x.go(2);
        Edge.due("one TENTH was spoken", x.through(0, 1, false), 1);
        Edge.says("HUSH: the TURN. NONE for others, and if it is SILENT.");
        Edge.takesJust(0, 1, y -> {
            Edge.ends(y, 2);
            y.speak(0, 5);
            y.speak(1, 5);
        }, (y, n) -> y.hush(n), NONE, 0);
        Edge.refuses("SILENT at first", y -> Edge.ends(y, 2), y -> y.hush(1), NONE, 2);
        Edge.refuses("SILENT again", y -> {
            Edge.ends(y, 2);
            y.speak(1, 1);
            y.go(2);
        }, y -> y.hush(1), NONE, 2);
        Edge.refuses("no ENDS", y -> { }, y -> y.hush(0), NONE, 0);
    }

    // ---- YESES ----

    /** END 1 speaks in 1 and 2, ENDED in 3, by DELAY 4 HEARD out in 8; END 2 in 1 .. 3, HEARD out in 5. */
    private static LongLine twoHeardOut(int tenth) {
        LongLine x = Edge.silent(3);
        x.delay(1, 0, 4);
        x.speak(1, 2);
        x.speak(2, 3);
        x.go(tenth);
        return x;
    }

    private static void meant() {
        Edge.says("MEANT is the TURN of another END that it HEARD out last: ENDED, 1 and DELAY (as it is now) together "
            + "are TENTH now at most, the most of all such; of like ones the lowest TURN; or NONE");
        Edge.due("none HEARD out yet", twoHeardOut(4).yes(0), NONE);
        Edge.due("in the TENTH itself", twoHeardOut(5).yes(0), 1);
        Edge.due("the other one not yet", twoHeardOut(7).yes(0), 1);
        Edge.due("the most of all such", twoHeardOut(8).yes(0), 0);
        Edge.due("not its own", twoHeardOut(8).yes(2), 0);
        LongLine x = twoHeardOut(8);
        x.delay(1, 0, 1);
        Edge.due("of like ones the lowest, by the DELAY now", x.yes(0), 0);
        x.delay(1, 0, 0);
        Edge.due("the other one later now", x.yes(0), 1);
        Edge.due("what was MEANT stays", x.said(0, 2), 0);
        x.delay(1, 0, 60);
        Edge.due("not HEARD out by the DELAY now", x.yes(0), 1);
        LongLine y = Edge.silent(2);
        y.speak(1, 5);
        y.go(2);
        y.hush(1);
        y.go(1);
        Edge.due("HUSHED, ENDED in 3, not HEARD out in 3", y.yes(0), NONE);
        y.go(1);
        Edge.due("HEARD out in 4", y.yes(0), 0);
    }

    private static void yeses(LongLine x, int count) {
        Edge.ends(x, 2);
        for (int i = 0; i < count; i++) {
            x.yes(i % 2);
        }
    }

    private static void yes() {
        Edge.says("YES: MEANT (NONE: none). -2 for others, or if there are 40.");
        Edge.takesJust(0, 1, y -> Edge.ends(y, 2), (y, n) -> y.yes(n), -2, 0);
        Edge.refuses("no ENDS", y -> { }, y -> y.yes(0), -2, 0);
        Edge.takes("the 40th", y -> yeses(y, 39), y -> y.yes(1), -2);
        Edge.refuses("the 41st", y -> yeses(y, 40), y -> y.yes(1), -2, 1);
        Edge.refuses("the 41st, of none", y -> yeses(y, 40), y -> y.yes(2), -2, 0);
        Edge.says("YES (40 at most) of an END: by it the TENTH now");
        LongLine x = new LongLine();
        yeses(x, 39);
        x.go(3);
        x.yes(1);
        Edge.due("YESES", x.said(NONE, 0), 40);
        Edge.dueRow("the 40th", new int[] {x.said(39, 0), x.said(39, 1), x.said(39, 2)}, 1, 3, NONE);
        Edge.due("the first", x.said(0, 1), 0);
    }

    // ---- TENTHS ----

    private static void atTenth(LongLine x, int tenth) {
        while (x.about(1) + 300 <= tenth) {
            x.go(300);
        }
        if (x.about(1) < tenth) {
            x.go(tenth - x.about(1));
        }
    }

    private static void go() {
        Edge.says("TENTHS go by (1 .. 300): how many TURNS began by themselves in them. NONE for others, or beyond 9000.");
        Edge.takesJust(1, 300, y -> Edge.ends(y, 2), (y, n) -> y.go(n), NONE, 0);
        Edge.takes("up to 9000", y -> atTenth(y, 8700), y -> y.go(300), NONE);
        Edge.takes("the 9000th", y -> atTenth(y, 8999), y -> y.go(1), NONE);
        Edge.refuses("the 9001st", y -> atTenth(y, 9000), y -> y.go(1), NONE, 1);
        Edge.refuses("one beyond 9000", y -> atTenth(y, 8701), y -> y.go(300), NONE, 1);
        Edge.refuses("beyond 9000, and 0", y -> atTenth(y, 9000), y -> y.go(0), NONE, 0);
        Edge.refuses("beyond 9000, and 301", y -> atTenth(y, 9000), y -> y.go(301), NONE, 0);
        LongLine x = new LongLine();
        x.tellEnd(0, 0, 0, 1);
        x.tellEnd(99, 0, 0, 1);
        x.speak(0, 3);
        // by hand in 1 .. 3, by itself in 4 and 5, cut short in none
        Edge.due("by themselves", x.go(5), 2);
        Edge.due("TURNS", x.turn(NONE, 0), 3);
    }

    // ---- STEPS ----

    private static void steps() {
        Edge.says("STEPS: TENTHS that go by (a call each), SPEAK, HUSH, YES, a DELAY, a RULE: the latest 30 can be taken back");
        LongLine x = new LongLine();
        Edge.ends(x, 2);
        x.seed(5);
        Edge.tell(x, "rule 1;");
        x.by(NONE);
        x.price(1, 1, 1);
        x.agree(1, 1, 0);
        x.heard(1, 1, 0, 0);
        x.image();
        Edge.due("what is no STEP", x.about(6), 0);
        x.go(7);
        Edge.due("TENTHS: a call", x.about(6), 1);
        x.speak(0, 5);
        Edge.due("SPEAK", x.about(6), 2);
        x.hush(0);
        Edge.due("HUSH", x.about(6), 3);
        x.yes(0);
        Edge.due("YES", x.about(6), 4);
        x.delay(0, 1, 3);
        Edge.due("a DELAY", x.about(6), 5);
        x.rule(2);
        Edge.due("a RULE", x.about(6), 6);
        int[][] each = {{5, 1, 3, 7}, {4, 1, 0, 7}, {3, 0, 0, 7}, {2, 0, 0, 7}, {1, 0, 0, 7}, {0, 0, 0, 0}};
        for (int[] row : each) {
            int left = x.undo();
            Edge.dueRow("STEPS, YESES, DELAY, TENTH", new int[] {left, x.said(NONE, 0), x.of(1, 20), x.about(1)}, row);
        }
        Edge.says("The latest STEP is taken back: how many can be yet. NONE: there is none (REFUSED as things stand).");
        Edge.refuses("none", y -> Edge.ends(y, 2), y -> y.undo(), NONE, 2);
        Edge.refuses("none any more", y -> {
            Edge.ends(y, 2);
            y.go(3);
            y.undo();
        }, y -> y.undo(), NONE, 2);
        for (int count : new int[] {29, 30, 31, 65}) {
            LongLine y = new LongLine();
            Edge.ends(y, 2);
            for (int i = 0; i < count; i++) {
                y.go(1 + i % 3);
            }
            int kept = Math.min(30, count);
            Edge.due("STEPS of " + count, y.about(6), kept);
            for (int i = kept - 1; i >= 0; i--) {
                Edge.due("yet, of " + count, y.undo(), i);
            }
            int tenth = 0;
            for (int i = 0; i < count - kept; i++) {
                tenth += 1 + i % 3;
            }
            Edge.due("TENTH of " + count, y.about(1), tenth);
            Edge.due("the 31st of " + count, y.undo(), NONE);
            Edge.due("TENTH stays", y.about(1), tenth);
        }
    }

    private static void takenBack() {
        Edge.says("(all that is told in I is as ahead of it but ENDS that were told since, which are SILENT, QUIET 0, "
            + "PATIENCE 0, and have HEARD nobody)");
        LongLine x = new LongLine();
        LongLine twin = new LongLine();
        for (LongLine one : new LongLine[] {x, twin}) {
            one.tellEnd(3, 2, 2, 6);
            one.tellEnd(5, 4, 3, 9);
            one.delay(0, 1, 2);
            one.go(25);
            one.speak(1, 30);
            one.go(4);
            one.yes(0);
        }
        x.go(1);
        x.seed(3);
        x.tellEnd(0, 3, 1, 3);
        x.delay(1, 2, 5);
        x.go(30);
        x.speak(2, 9);
        x.yes(2);
        x.go(30);
        Edge.due("END 2 spoke and HEARD", x.of(2, 8) != NONE && x.of(2, 9) > 1, true);
        while (x.about(6) > twin.about(6)) {
            x.undo();
        }
        twin.tellEnd(0, 3, 1, 3);
        Edge.alike("as ahead of it", x, twin);
        LongLine y = new LongLine();
        y.go(1);
        Edge.ends(y, 1);
        y.speak(0, 5);
        y.go(5);
        for (int i = 0; i < 3; i++) {
            y.undo();
        }
        Edge.dueRow("SILENT, QUIET 0, PATIENCE 0, PRESSED, HEARD nobody, TURNS", new int[] {y.of(0, 4), y.of(0, 5),
            y.of(0, 6), y.of(0, 7), y.of(0, 8), y.of(0, 9)}, 0, 0, 0, 0, NONE, 0);
        Edge.due("ENDS", y.about(0), 1);
        Edge.due("TURNS", y.turn(NONE, 0), 0);
    }

    /** What was taken back is gone: a TURN or a YES of it counts nowhere any longer. */
    private static void gone() {
        Edge.says("the latest 30 can be taken back, the latest first (all that is told in I is as ahead of it");
        LongLine x = Edge.silent(2);
        x.speak(1, 1);
        x.go(3);
        x.yes(0);
        int steps = x.about(6);
        x.speak(1, 2);
        x.go(4);
        x.yes(0);
        x.speak(0, 3);
        x.go(9);
        while (x.about(6) > steps) {
            x.undo();
        }
        x.go(20);
        Edge.dueRow("TURN 1, YES 1", new int[] {x.turn(1, 0), x.said(1, 0)}, -2, -2);
        Edge.dueRow("TURNS, YESES", new int[] {x.turn(NONE, 0), x.said(NONE, 0)}, 1, 1);
        Edge.due("TAKEN", x.said(0, 11), 0);
        Edge.due("MISJOINED", x.misjoined(), 0);
        Edge.due("OF A YES", x.whose(1, 23, 0, 0, 0, false), 1);
        Edge.due("no such TURN", x.whose(1, 23, 0, 0, 1, false), NONE);
        Edge.due("COLD", x.cold(0, 1, false), 0);
        Edge.due("MEANT", x.yes(0), 0);
        LongLine y = Edge.silent(2);
        y.speak(0, 1);
        y.speak(1, 50);
        y.go(5);
        Edge.due("HASTE", y.haste(0, 1, false), 1);
        y.undo();
        y.undo();
        y.go(5);
        Edge.due("HASTE, not into what is gone", y.haste(0, 1, false), 0);
        y.speak(1, 50);
        y.go(3);
        y.speak(0, 1);
        y.go(3);
        Edge.due("HASTE, again", y.haste(0, 1, false), 1);
        y.undo();
        y.undo();
        y.go(9);
        Edge.due("HASTE, not by what is gone", y.haste(0, 1, false), 0);
        LongLine z = Edge.silent(2);
        z.speak(0, 1);
        z.go(5);
        z.undo();
        z.undo();
        Edge.due("the same number", z.speak(1, 7), 0);
        Edge.dueRow("another TURN", Edge.turnRow(z, 0), 1, 1, 7, NONE, 0);
        LongLine byItself = new LongLine();
        byItself.tellEnd(0, 0, 0, 1);
        byItself.go(5);
        Edge.dueRow("began and ended in one STEP", Edge.turnRow(byItself, 0), 0, 1, 1, 2, 1);
        byItself.undo();
        byItself.speak(0, 7);
        Edge.dueRow("another TURN in its place", Edge.turnRow(byItself, 0), 0, 1, 7, NONE, 0);
        coldOfWhatIsGone();
    }

    private static void coldOfWhatIsGone() {
        // END 1 HEARS in 22 what BEGAN in 1; its TURN of 1 is SAID and then gone
        LongLine x = Edge.silent(2);
        x.delay(0, 1, 20);
        x.speak(0, 1);
        x.speak(1, 1);
        x.go(30);
        Edge.due("COLD", x.cold(0, 1, false), 20);
        x.undo();
        x.undo();
        x.go(30);
        Edge.due("COLD, not to what is gone", x.cold(0, 1, false), 0);
        LongLine y = Edge.silent(2);
        y.delay(0, 1, 20);
        y.speak(1, 1);
        y.speak(0, 1);
        y.go(4);
        y.speak(1, 1);
        y.go(30);
        Edge.due("its own came between, and has a gap of 16 itself", y.cold(0, 1, false), 16);
        y.undo();
        y.undo();
        y.go(30);
        Edge.due("its own is gone", y.cold(0, 1, false), 20);
    }

    /** 90 TURNS and 40 YESES: all that looks through them, and an image of them. */
    private static void full() {
        Edge.says("YES (40 at most) of an END");
        LongLine x = new LongLine();
        Edge.tell(x, "wait 999;");
        x.by(0);
        Edge.ends(x, 2);
        unspoken(x, 88);
        x.speak(1, 1);
        x.go(3);
        x.speak(0, 1);
        x.go(3);
        for (int i = 0; i < 40; i++) {
            Edge.due("MEANT", x.yes(0), 88);
        }
        Edge.due("the last TURN, for END 1", x.first(88, 89, 1), 88);
        Edge.due("the last YES", x.said(39, 11), 88);
        Edge.due("MISJOINED", x.misjoined(), 0);
        Edge.due("COLD", x.cold(0, 1, false), 3);
        Edge.due("not COLD", x.cold(1, 0, false), 0);
        Edge.due("HASTE", x.haste(0, 1, false), 0);
        Edge.due("OF A YES", x.whose(0, 6, 0, 0, 89, false), 1);
        Edge.due("image()", x.image(), 6);
        x.undo();
        Edge.due("back()", x.back(), 6);
        Edge.dueRow("TURNS, YESES", new int[] {x.turn(NONE, 0), x.said(NONE, 0)}, 90, 40);
        Edge.dueRow("the 90th TURN", Edge.turnRow(x, 89), 0, 4, 1, 5, 1);
        Edge.dueRow("the 40th YES", new int[] {x.said(39, 0), x.said(39, 1), x.said(39, 2)}, 0, 6, 88);
    }

    /** One that was SPEAKING is so again, whatever ended its TURN since. */
    private static void goesOnAgain() {
        Edge.says("can be taken back, the latest first");
        LongLine all = Edge.silent(4);
        for (int e = 0; e < 4; e++) {
            all.speak(e, 5);
        }
        all.go(2);
        all.go(9);
        Edge.dueRow("KINDS", new int[] {all.turn(0, 4), all.turn(1, 4), all.turn(2, 4), all.turn(3, 4)}, 1, 1, 1, 1);
        all.undo();
        for (int e = 0; e < 4; e++) {
            Edge.dueRow("it goes on", Edge.turnRow(all, e), e, 1, 5, NONE, 0);
        }
        for (int how = 0; how < 3; how++) {
            LongLine x = Edge.stopping(0, 2);
            x.speak(1, 4);
            x.go(1);
            int[] before = Edge.turnRow(x, 0);
            if (how == 0) {
                x.hush(1);
                x.speak(1, 7);
            } else if (how == 1) {
                x.go(20);
                x.speak(0, 7);
            } else {
                x.speak(0, 7);
                x.go(3);
            }
            Edge.due("it ended", x.turn(0, 4), new int[] {3, 1, 2}[how]);
            x.undo();
            x.undo();
            Edge.dueRow("it goes on", Edge.turnRow(x, 0), before);
            Edge.dueRow("SPEAKING, TURNS, YIELDED", new int[] {x.of(1, 4), x.of(1, 9), x.of(1, 10)}, 1, 1, 0);
            x.go(4);
            Edge.dueRow("and is SAID", Edge.turnRow(x, 0), 1, 1, 4, 5, 1);
        }
    }

    // ---- what stands ----

    private static void of() {
        Edge.says("20 + from: DELAY to it (from itself: 0). -2 for others.");
        for (int what : new int[] {-1, 11, 12, 19, 22, 23, 24, 30, Edge.LOW, Edge.HIGH}) {
            Edge.asks("of(1, " + what + ")", x -> fiveLater(x, 2), x -> x.of(1, what), -2);
        }
        Edge.asks("from the first", x -> fiveLater(x, 2), x -> x.of(1, 20), 5);
        Edge.asks("from itself", x -> fiveLater(x, 2), x -> x.of(1, 21), 0);
        Edge.asks("the other way", x -> fiveLater(x, 2), x -> x.of(0, 21), 0);
        Edge.asks("from the last", x -> {
            fiveLater(x, 4);
            x.delay(3, 0, 60);
        }, x -> x.of(0, 23), 60);
        for (int end : new int[] {-1, 2, Edge.LOW, Edge.HIGH}) {
            for (int what : new int[] {0, 10, 20}) {
                Edge.asks("of(" + end + ")", x -> fiveLater(x, 2), x -> x.of(end, what), -2);
            }
        }
        Edge.asks("of() without ENDS", x -> { }, x -> x.of(0, 4), -2);
        Edge.says("whether it is SPEAKING (1, 0)");
        Edge.asks("SILENT", x -> fiveLater(x, 2), x -> x.of(0, 4), 0);
        Edge.asks("SPEAKING", x -> {
            fiveLater(x, 2);
            x.speak(0, 1);
        }, x -> x.of(0, 4), 1);
    }

    private static void turn() {
        Edge.says("TURNS: how many (i NONE); the i-th: 0 END, 1 BEGAN, 2 LONG, 3 ENDED, 4 KIND. -2 if there is none such, and for others.");
        Edge.asks("none", x -> Edge.ends(x, 2), x -> x.turn(NONE, 0), 0);
        Edge.asks("the first of none", x -> Edge.ends(x, 2), x -> x.turn(0, 0), -2);
        Edge.asks("how many", x -> unspokenOf(x, 3), x -> x.turn(NONE, 0), 3);
        Edge.asks("the last", x -> unspokenOf(x, 3), x -> x.turn(2, 0), 0);
        Edge.asks("behind the last", x -> unspokenOf(x, 3), x -> x.turn(3, 0), -2);
        Edge.asks("the 90th", x -> unspokenOf(x, 90), x -> x.turn(89, 4), 3);
        Edge.asks("the 91st", x -> unspokenOf(x, 90), x -> x.turn(90, 4), -2);
        for (int i : new int[] {-2, Edge.LOW, Edge.HIGH}) {
            Edge.asks("turn(" + i + ")", x -> unspokenOf(x, 3), x -> x.turn(i, 0), -2);
        }
        for (int what : new int[] {-1, 5, Edge.LOW, Edge.HIGH}) {
            Edge.asks("turn(2, " + what + ")", x -> unspokenOf(x, 3), x -> x.turn(2, what), -2);
        }
        Edge.says("END, BEGAN (the TENTH; by hand the next one), LONG, ENDED (the TENTH in which it no longer spoke; NONE: not yet), "
            + "KIND (0 going on, 1 SAID, 2 YIELDED, 3 HUSHED)");
        LongLine two = new LongLine();
        two.tellEnd(3, 0, 0, 2);
        two.tellEnd(99, 0, 0, 2);
        two.go(4);
        two.speak(1, 2);
        Edge.dueRow("by itself in TENTH 4", Edge.turnRow(two, 0), 0, 4, 2, NONE, 0);
        Edge.dueRow("by hand in TENTH 5", Edge.turnRow(two, 1), 1, 5, 2, NONE, 0);
        two.go(2);
        Edge.dueRow("ENDED", new int[] {two.turn(0, 3), two.turn(1, 3)}, 6, NONE);
        LongLine x = Edge.stopping(0, 0, 1);
        x.speak(0, 1);
        x.speak(1, 9);
        x.speak(2, 9);
        x.go(3);
        x.speak(0, 9);
        x.hush(1);
        Edge.dueRow("KINDS", new int[] {x.turn(3, 4), x.turn(0, 4), x.turn(2, 4), x.turn(1, 4)}, 0, 1, 2, 3);
    }

    private static void said() {
        Edge.says("YESES: how many (i NONE); the i-th: 0 END, 1 TENTH, 2 MEANT, 10 + end: TAKEN there (of its own END: NONE). "
            + "-2 if there is none such, and for others.");
        Edge.asks("none", x -> Edge.ends(x, 2), x -> x.said(NONE, 0), 0);
        Edge.asks("the first of none", x -> Edge.ends(x, 2), x -> x.said(0, 0), -2);
        Edge.asks("how many", x -> yeses(x, 3), x -> x.said(NONE, 0), 3);
        Edge.asks("the last", x -> yeses(x, 3), x -> x.said(2, 0), 0);
        Edge.asks("behind the last", x -> yeses(x, 3), x -> x.said(3, 0), -2);
        Edge.asks("the 40th", x -> yeses(x, 40), x -> x.said(39, 0), 1);
        Edge.asks("the 41st", x -> yeses(x, 40), x -> x.said(40, 0), -2);
        for (int i : new int[] {-2, Edge.LOW, Edge.HIGH}) {
            Edge.asks("said(" + i + ")", x -> yeses(x, 3), x -> x.said(i, 0), -2);
        }
        for (int what : new int[] {-1, 3, 9, 12, 13, 14, Edge.LOW, Edge.HIGH}) {
            Edge.asks("said(2, " + what + ")", x -> yeses(x, 3), x -> x.said(2, what), -2);
        }
        // its END speaks, too, but doesn't take its own YES
        LongLine own = Edge.silent(2);
        own.speak(0, 9);
        own.go(2);
        own.yes(0);
        own.go(2);
        Edge.dueRow("of its own END, of the other one", new int[] {own.said(0, 10), own.said(0, 11)}, NONE, NONE);
    }

    public static void main(String[] args) {
        newObject();
        tellEnd();
        seed();
        delay();
        rule();
        hears();
        pressed();
        turnEnds();
        silent();
        draws();
        unlike();
        whoCalled();
        over();
        clearAndLost();
        ninety();
        neverSpoken();
        speak();
        hush();
        meant();
        yes();
        go();
        steps();
        takenBack();
        gone();
        full();
        goesOnAgain();
        of();
        turn();
        said();
        Edge.finish("part I");
    }
}
