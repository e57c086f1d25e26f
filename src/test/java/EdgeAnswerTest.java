/** The edges that part III of the document names: what follows from it, PRICE, AGREED, HEARD, REFUSED, AN IMAGE. */
public final class EdgeAnswerTest {
    private static final int NONE = Edge.NONE;

    private EdgeAnswerTest() {
    }

    private static void twoEnds(LongLine x) {
        Edge.ends(x, 2);
    }

    /** A last law, as TEXT 1 of a silent() line. */
    private static void rule(LongLine x, String law) {
        Edge.due("a law", Edge.tell(x, "wait 999;" + law), 1);
        x.by(1);
    }

    private static void busy(LongLine x) {
        Edge.tell(x, "wait waits+turns;cold gap*2;haste into*3;");
        x.tellEnd(2, 3, 2, 6);
        x.tellEnd(3, 2, 1, 4);
        x.tellEnd(5, 0, 0, 9);
        x.delay(0, 1, 3);
        x.delay(2, 0, 1);
        x.go(60);
        x.by(0);
        x.go(5);
        x.yes(0);
        x.speak(1, 20);
        x.go(4);
        x.price(3, 2, 1);
        x.agree(2, 5, 0);
        x.heard(5, 60, 3, 9);
        Edge.putOnTape(x, "go 5;");
    }

    private static void changesNothing() {
        Edge.says("All that follows changes nothing.");
        LongLine x = new LongLine();
        LongLine twin = new LongLine();
        busy(x);
        busy(twin);
        for (int n : new int[] {Edge.LOW, -2, -1, 0, 1, 2, 3, 24, 99, 3001, Edge.HIGH}) {
            for (boolean flag : new boolean[] {false, true}) {
                x.whose(n, n, n, n, n, flag);
                x.whose(1, 69, 0, n, 0, flag);
                x.cold(0, n, flag);
                x.haste(n, 1, flag);
                x.rules(n, 77, flag);
                x.rules(3, n, flag);
                x.drawn(n, n, n, n, flag);
                x.worth(n, n, n, n, flag);
                x.span(flag);
            }
            x.first(0, n, 1);
            x.bestRule(n);
            x.pence(n);
            x.forPence(n, 1);
            x.comes(n, 5, 1, 2, 5, 3);
            x.apart(1, 2, 5, 3, n);
            x.wide(n, n);
            x.least(n);
            x.way(0, 2, n);
            x.said(n, 11);
            x.misjoined();
            x.refused(n);
        }
        Edge.dueRow("REFUSED", Edge.refusals(x), Edge.refusals(twin));
        Edge.alike("all", x, twin);
    }

    // ---- YESES ----

    private static void taken() {
        Edge.says("the TURN of that END that BEGAN last, no later than TENTH now and ahead of the TENTH in which it HEARS "
            + "the YES (the YES's TENTH, 1 and DELAY to it as it is now); NONE");
        // a YES in 3, HEARD in 9; TURN 0 BEGAN in 1, TURN 1 in a later one
        int[][] all = {{4, 1}, {7, 1}, {8, 1}, {9, 0}, {10, 0}};
        for (int[] one : all) {
            LongLine x = oneMeant();
            if (one[0] > 4) {
                x.go(one[0] - 4);
            }
            x.speak(1, 1);
            Edge.due("later than TENTH now, BEGAN in " + one[0], x.said(0, 11), 0);
            x.go(1);
            Edge.due("BEGAN in " + one[0], x.said(0, 11), one[1]);
            x.go(5);
            Edge.due("for ever, BEGAN in " + one[0], x.said(0, 11), one[1]);
        }
        LongLine x = oneMeant();
        x.go(3);
        x.speak(1, 1);
        x.go(1);
        Edge.due("by DELAY 5", x.said(0, 11), 1);
        x.delay(0, 1, 4);
        Edge.due("by DELAY 4: HEARD in 8", x.said(0, 11), 1);
        x.delay(0, 1, 3);
        Edge.due("by DELAY 3: HEARD in 7", x.said(0, 11), 0);
        LongLine y = Edge.silent(2);
        y.yes(0);
        y.speak(1, 5);
        y.go(4);
        Edge.due("BEGAN in 1, HEARD in 1", y.said(0, 11), NONE);
        y.delay(0, 1, 1);
        Edge.due("BEGAN in 1, HEARD in 2", y.said(0, 11), 0);
    }

    /** END 1 speaks in 1, END 0 says yes in 3; by DELAY 5 END 1 HEARS it in 9. */
    private static LongLine oneMeant() {
        LongLine x = Edge.silent(2);
        x.delay(0, 1, 5);
        x.speak(1, 1);
        x.go(3);
        Edge.due("MEANT", x.yes(0), 0);
        return x;
    }

    private static void misjoined() {
        Edge.says("YESES that MEANT a TURN, of whose END it is now (that TENTH is no later than now) TAKEN for another one, or none: how many");
        Edge.asks("without YESES", EdgeAnswerTest::twoEnds, x -> x.misjoined(), 0);
        LongLine x = oneMeant();
        x.go(4);
        x.speak(1, 1);
        x.go(1);
        Edge.due("TENTH 8: HEARD later", x.misjoined(), 0);
        Edge.due("TAKEN already", x.said(0, 11), 1);
        x.go(1);
        Edge.due("TENTH 9: HEARD now", x.misjoined(), 1);
        x.yes(1);
        x.go(5);
        Edge.due("one that MEANT none", x.said(1, 2), NONE);
        Edge.due("is not one of them", x.misjoined(), 1);
        x.delay(0, 1, 3);
        Edge.due("TAKEN for the one that was MEANT, by the DELAY now", x.misjoined(), 0);
        LongLine all = oneMeant();
        for (int i = 1; i < 40; i++) {
            all.yes(0);
        }
        all.speak(1, 1);
        all.go(9);
        Edge.due("all 40", all.misjoined(), 40);
    }

    // ---- WHOSE and FIRST ----

    /** END 0 has spoken in 1 .. 3 (ENDED in 4) and in 10 .. 14 (ENDED in 15), END 1 in 20. */
    private static void threeTurns(LongLine x) {
        Edge.tell(x, "wait 999;");
        x.by(0);
        Edge.ends(x, 2);
        x.speak(0, 3);
        x.go(9);
        x.speak(0, 5);
        x.go(10);
        x.speak(1, 1);
        x.go(2);
    }

    private static void odds(int tenth, int low, int high, int turn, int upper, int lower) {
        LongLine x = new LongLine();
        threeTurns(x);
        String what = "TURN " + turn + " in " + tenth + " by " + low + " .. " + high;
        Edge.due(what, x.whose(0, tenth, low, high, turn, false), upper);
        Edge.due(what + ", the lower", x.whose(0, tenth, low, high, turn, true), lower);
    }

    private static void whose() {
        Edge.says("that it is the one that ENDED last no later than so much ahead of that TENTH (of like ones the lowest); in lowest terms");
        odds(3, 0, 0, 0, 0, 1);
        odds(4, 0, 0, 0, 1, 1);
        odds(4, 1, 1, 0, 0, 1);
        odds(14, 0, 0, 0, 1, 1);
        odds(14, 0, 0, 1, 0, 1);
        odds(15, 0, 0, 1, 1, 1);
        odds(15, 0, 0, 0, 0, 1);
        odds(15, 0, 1, 0, 1, 2);
        odds(15, 0, 1, 1, 1, 2);
        odds(15, 0, 11, 0, 11, 12);
        odds(15, 0, 13, 0, 11, 14);
        odds(16, 0, 5, 1, 1, 3);
        odds(126, 122, 122, 0, 1, 1);
        odds(125, 122, 122, 0, 0, 1);
        odds(126, 0, 122, 1, 112, 123);
        odds(126, 0, 122, 0, 11, 123);
        odds(9000, 0, 122, 1, 1, 1);
        odds(0, 0, 122, 1, 0, 1);
        Edge.says("in a TENTH (0 .. 9000), both ways low .. high (0 .. 122): ODDS of a TURN (of another END: 0)");
        odds(22, 0, 0, 2, 0, 1);
        odds(9000, 0, 122, 2, 0, 1);
        Edge.takesJust(0, 1, EdgeAnswerTest::threeTurns, (x, n) -> x.whose(n, 20, 0, 5, 0, true), NONE, Edge.ASKED);
        Edge.takesJust(0, 9000, EdgeAnswerTest::threeTurns, (x, n) -> x.whose(0, n, 0, 5, 0, true), NONE, Edge.ASKED);
        Edge.takesJust(0, 122, EdgeAnswerTest::threeTurns, (x, n) -> x.whose(0, 20, n, 122, 0, true), NONE, Edge.ASKED);
        Edge.takesJust(0, 5, EdgeAnswerTest::threeTurns, (x, n) -> x.whose(0, 20, n, 5, 0, true), NONE, Edge.ASKED);
        Edge.takesJust(5, 122, EdgeAnswerTest::threeTurns, (x, n) -> x.whose(0, 20, 5, n, 0, true), NONE, Edge.ASKED);
        Edge.takesJust(0, 2, EdgeAnswerTest::threeTurns, (x, n) -> x.whose(0, 20, 0, 5, n, true), NONE, Edge.ASKED);
        Edge.asks("without TURNS", EdgeAnswerTest::twoEnds, x -> x.whose(0, 20, 0, 5, 0, false), NONE);
        LongLine x = Edge.silent(1);
        x.speak(0, 9);
        x.go(3);
        Edge.due("one that goes on", x.whose(0, 9000, 0, 0, 0, false), 0);
        x.hush(0);
        Edge.due("HUSHED: ENDED is the next TENTH", x.whose(0, 4, 0, 0, 0, false), 1);
        Edge.due("not TENTH now", x.whose(0, 3, 0, 0, 0, false), 0);
    }

    private static void first() {
        Edge.says("FIRST of two TURNS for an END (NONE: by THE CLOCK). -2: both at once; NONE for others.");
        Edge.takesJust(0, 1, EdgeAnswerTest::threeTurns, (x, n) -> x.first(n, 2, 0), NONE, Edge.ASKED);
        Edge.takesJust(1, 2, EdgeAnswerTest::threeTurns, (x, n) -> n == 0 ? x.first(0, 0, 0) : x.first(0, n, 0), NONE, Edge.ASKED);
        Edge.takesJust(-1, 1, EdgeAnswerTest::threeTurns, (x, n) -> x.first(0, 2, n), NONE, Edge.ASKED);
        for (int turn = 0; turn < 3; turn++) {
            int same = turn;
            Edge.asks("alike", EdgeAnswerTest::threeTurns, x -> x.first(same, same, NONE), NONE);
        }
        Edge.asks("without TURNS", EdgeAnswerTest::twoEnds, x -> x.first(0, 1, NONE), NONE);
        Edge.says("by when they BEGAN there: one's own in BEGAN, others 1 and DELAY later (as it is now); by THE CLOCK (NONE): BEGAN");
        LongLine x = Edge.silent(3);
        x.delay(0, 2, 3);
        x.speak(0, 1);
        x.go(1);
        x.speak(1, 1);
        x.go(3);
        x.speak(2, 1);
        // BEGAN in 1, 2 and 5
        Edge.due("by THE CLOCK", x.first(2, 1, NONE), 1);
        Edge.due("END 1 saw 0 in 2 and its own in 2", x.first(0, 1, 1), -2);
        Edge.due("END 0 saw its own in 1", x.first(0, 1, 0), 0);
        Edge.due("END 2 saw 0 in 5 and its own in 5", x.first(2, 0, 2), -2);
        Edge.due("END 2 saw 0 in 5 and 1 in 3", x.first(0, 1, 2), 1);
        x.delay(0, 2, 1);
        Edge.due("by the DELAY now, both in 3", x.first(0, 1, 2), -2);
        x.delay(0, 2, 0);
        Edge.due("by the DELAY now, in 2 and 3", x.first(0, 1, 2), 0);
        LongLine y = Edge.silent(2);
        y.speak(0, 1);
        y.speak(1, 1);
        Edge.due("both in 1 by THE CLOCK", y.first(0, 1, NONE), -2);
    }

    // ---- COLD and HASTE ----

    /**
     * END 1 speaks in 1 and 2, ENDED in 3; END 0 begins in a TENTH, which END 1 HEARS in the next,
     * and END 1 again in a TENTH (0: not at all). Each gap counts 100 and its TENTHS.
     */
    private static int cold(int began, int again, int now) {
        LongLine x = Edge.silent(2);
        rule(x, "cold 100+gap;");
        Edge.due("without a wait", Edge.tell(x, "wait 0;long 30;cold 100+gap;"), 2);
        x.speak(1, 2);
        for (int t = 1; t <= now; t++) {
            if (t == began) {
                x.speak(0, 1);
            }
            if (t == again && t > 3) {
                x.speak(1, 30);
            }
            // by hand it can't begin in the TENTH in which it ends, but by itself it can
            x.by(t == again && t == 3 ? 2 : 1);
            x.go(1);
        }
        if (again != 0) {
            Edge.due("again in", x.turn(began < again ? 2 : 1, 1), again);
        }
        return x.cold(0, 1, false);
    }

    private static void coldEdges() {
        Edge.says("the gap from its ENDED to the TENTH in which it HEARS the next TURN of the one begin (BEGAN, 1 and DELAY as now; "
            + "the first that comes no earlier than ENDED, and no later than TENTH now)");
        Edge.due("HEARD ahead of ENDED", cold(1, 0, 20), 0);
        Edge.due("HEARD in ENDED", cold(2, 0, 20), 100);
        Edge.due("HEARD behind ENDED", cold(3, 0, 20), 101);
        Edge.due("later than TENTH now", cold(9, 0, 9), 0);
        Edge.due("in TENTH now", cold(9, 0, 10), 107);
        Edge.says("if it began none of its own from ENDED to that TENTH (that one too)");
        Edge.due("its own in ENDED", cold(9, 3, 20), 0);
        Edge.due("its own in between", cold(9, 6, 20), 0);
        Edge.due("its own in that TENTH", cold(9, 10, 20), 0);
        Edge.due("its own behind it", cold(9, 11, 20), 107);
        LongLine ahead = Edge.silent(2);
        ahead.delay(0, 1, 5);
        ahead.speak(0, 1);
        ahead.speak(1, 1);
        ahead.go(9);
        Edge.due("BEGAN ahead of ENDED, in the first TURN, HEARD in 7", ahead.cold(0, 1, false), 5);
        LongLine two = Edge.silent(2);
        rule(two, "cold 100+gap;");
        two.speak(1, 2);
        two.go(1);
        two.speak(0, 1);
        two.go(4);
        two.speak(0, 1);
        two.go(9);
        Edge.due("the first that comes alone", two.cold(0, 1, false), 100);
        two.delay(0, 1, 60);
        Edge.due("by the DELAY now, none is HEARD yet", two.cold(0, 1, false), 0);
        Edge.says("cold of all gaps together");
        two.delay(0, 1, 0);
        two.speak(1, 1);
        two.go(5);
        two.speak(0, 1);
        two.go(2);
        Edge.due("gaps of 0 and 5", two.cold(0, 1, false), 100 + 105);
        Edge.says("of each TURN of that other one that is SAID");
        LongLine x = Edge.stopping(0, 1);
        x.speak(1, 5);
        x.go(1);
        x.hush(1);
        x.speak(0, 1);
        x.speak(1, 5);
        x.go(2);
        x.speak(0, 1);
        x.speak(1, 5);
        x.go(8);
        Edge.dueRow("HUSHED, YIELDED, YIELDED", new int[] {x.turn(0, 4), x.turn(2, 4), x.turn(4, 4)}, 3, 2, 2);
        Edge.due("none of them is SAID", x.cold(0, 1, false), 0);
        Edge.says("TO ONE WHO KNOWS: each gap less both ways' DELAYS and 2 (0 at least)");
        // END 1 speaks in 1, ENDED in 2; END 0 begins in 5: HEARD in 9 by DELAY 3, the gap is 7
        int[][] all = {{0, 2}, {1, 1}, {2, 0}, {3, 0}, {60, 0}};
        for (int[] one : all) {
            LongLine y = Edge.silent(2);
            y.delay(0, 1, 3);
            y.delay(1, 0, one[0]);
            y.speak(1, 1);
            y.go(4);
            y.speak(0, 1);
            y.go(5);
            Edge.due("a gap", y.cold(0, 1, false), 7);
            Edge.due("less 3 and " + one[0], y.cold(0, 1, true), one[1]);
            rule(y, "cold 50+gap;");
            Edge.due("by a law", y.cold(0, 1, true), 50 + one[1]);
        }
        others((y, pair) -> y.cold(pair[0], pair[1], false));
        others((y, pair) -> y.cold(pair[0], pair[1], true));
    }

    private interface PairCall {
        int on(LongLine x, int[] pair);
    }

    /** NONE for an END that isn't there, and to itself. */
    private static void others(PairCall call) {
        for (int[] pair : new int[][] {{0, 0}, {1, 1}, {2, 0}, {0, 2}, {-1, 0}, {0, -1}, {Edge.LOW, 0}, {0, Edge.HIGH}}) {
            Edge.asks("others", EdgeAnswerTest::twoEnds, x -> call.on(x, pair), NONE);
        }
        Edge.asks("0 and 1", EdgeAnswerTest::twoEnds, x -> call.on(x, new int[] {0, 1}), 0);
        Edge.asks("1 and 0", EdgeAnswerTest::twoEnds, x -> call.on(x, new int[] {1, 0}), 0);
    }

    /** END 1 speaks in 5 .. 8, ENDED in 9; END 0 begins in a TENTH. Each counts 100 and its into. */
    private static int haste(int began, int now, boolean knows, int back) {
        LongLine x = Edge.silent(2);
        rule(x, "haste 100+into;");
        x.delay(1, 0, back);
        for (int t = 1; t <= now; t++) {
            if (t == 5) {
                x.speak(1, 4);
            }
            if (t == began) {
                x.speak(0, 1);
            }
            x.go(1);
        }
        return x.haste(0, 1, knows);
    }

    private static void hasteEdges() {
        Edge.says("HEARS begin (no later than TENTH now) while it speaks itself (in a TURN of its own that BEGAN no later than that TENTH "
            + "and ENDED later, or didn't yet)");
        Edge.due("HEARD ahead of BEGAN", haste(3, 20, false, 0), 0);
        Edge.due("HEARD in BEGAN", haste(4, 20, false, 0), 100);
        Edge.due("HEARD behind BEGAN", haste(5, 20, false, 0), 101);
        Edge.due("HEARD ahead of ENDED", haste(7, 20, false, 0), 103);
        Edge.due("HEARD in ENDED", haste(8, 20, false, 0), 0);
        Edge.due("later than TENTH now", haste(6, 6, false, 0), 0);
        Edge.due("in TENTH now, it goes on yet", haste(6, 7, false, 0), 102);
        Edge.says("of those alone that BEGAN later than the one could HEAR the other's TURN (its BEGAN, 1 and DELAY)");
        Edge.due("BEGAN in 5, could HEAR in 6", haste(5, 20, true, 0), 0);
        Edge.due("BEGAN in 6, could HEAR in 6", haste(6, 20, true, 0), 0);
        Edge.due("BEGAN in 7, could HEAR in 6", haste(7, 20, true, 0), 103);
        Edge.due("BEGAN in 7, could HEAR in 7", haste(7, 20, true, 1), 0);
        LongLine x = Edge.silent(2);
        x.speak(1, 9);
        x.go(3);
        x.speak(0, 1);
        x.go(3);
        x.speak(0, 1);
        x.go(1);
        Edge.due("one each, without a law", x.haste(0, 1, false), 1);
        x.go(1);
        Edge.due("of all together", x.haste(0, 1, false), 2);
        Edge.due("of all together, to one who knows", x.haste(0, 1, true), 2);
        x.delay(1, 0, 2);
        Edge.due("BEGAN in 4 and 7, could HEAR in 4", x.haste(0, 1, true), 1);
        others((y, pair) -> y.haste(pair[0], pair[1], false));
        others((y, pair) -> y.haste(pair[0], pair[1], true));
    }

    // ---- RULES FOR TENTHS ----

    private static void rules() {
        Edge.says("CLEAR (lost false), LOST ones. NONE for others.");
        for (boolean lost : new boolean[] {false, true}) {
            Edge.takesJust(0, 3, EdgeAnswerTest::twoEnds, (x, n) -> x.rules(n, 30, lost), NONE, Edge.ASKED);
            Edge.takesJust(1, 3000, EdgeAnswerTest::twoEnds, (x, n) -> x.rules(1, n, lost), NONE, Edge.ASKED);
        }
        Edge.asks("without ENDS", x -> { }, x -> x.rules(0, 3000, false), 0);
        Edge.says("as if a told RULE held from now on (and nothing by hand; PATIENCE that is found already stays; 9000 and 90 TURNS "
            + "don't bound it): CLEAR, LOST TENTHS in all then (of these alone)");
        // END 0 speaks in 10 .. 14 by itself, then 24 .. 28; END 1 never
        Edge.asks("TENTH 10: nobody is HEARD yet", EdgeAnswerTest::oneTalks, x -> x.rules(0, 10, false), 0);
        Edge.asks("TENTH 11", EdgeAnswerTest::oneTalks, x -> x.rules(0, 11, false), 1);
        Edge.asks("TENTH 15", EdgeAnswerTest::oneTalks, x -> x.rules(0, 15, false), 5);
        Edge.asks("TENTH 24", EdgeAnswerTest::oneTalks, x -> x.rules(0, 24, false), 5);
        Edge.asks("TENTH 25", EdgeAnswerTest::oneTalks, x -> x.rules(0, 25, false), 6);
        LongLine later = new LongLine();
        oneTalks(later);
        later.go(12);
        Edge.due("CLEAR ahead of now", later.through(0, 1, false), 2);
        Edge.due("of these alone, what is under way too", later.rules(0, 3, false), 3);
        patienceStays();
        LongLine full = new LongLine();
        oneTalks(full);
        for (int i = 0; i < 90; i++) {
            full.speak(0, 1);
            full.hush(0);
        }
        Edge.due("none begins any more", full.go(30), 0);
        Edge.due("90 TURNS don't bound it", full.rules(0, 5, false), 4);
        LongLine last = new LongLine();
        oneTalks(last);
        for (int i = 0; i < 30; i++) {
            last.go(300);
        }
        Edge.dueRow("TENTH, TURNS", new int[] {last.about(1), last.turn(NONE, 0)}, 9000, 90);
        // both have waited on for long: they speak in 9001 .. 9005, and END 0 in 9016 .. 9020
        Edge.due("9000 don't bound it: LOST", last.rules(0, 20, true), 8);
        Edge.due("9000 don't bound it: CLEAR", last.rules(0, 20, false), 6);
        LongLine both = new LongLine();
        twoEnds(both);
        Edge.due("LOST: both in 10 .. 14", both.rules(0, 14, true), 8);
        Edge.due("CLEAR: both in 15", both.rules(0, 15, false), 2);
        both.go(13);
        Edge.due("LOST ahead of now", both.through(0, 1, true), 3);
        Edge.due("LOST, of these alone", both.rules(0, 1, true), 2);
        Edge.due("none LOST, of these alone", both.rules(0, 2, true) - both.rules(0, 1, true), 0);
    }

    /** END 1 waits 9 by the PATIENCE that it found in TENTH 1: it speaks in 10 .. 14. */
    private static void patienceStays() {
        LongLine x = new LongLine();
        Edge.tell(x, "wait if who=1 then 9 else 999 end;");
        x.by(0);
        twoEnds(x);
        x.go(5);
        // by RULE 1 it waits 19 from 15 on, and begins in 34
        int[][] all = {{10, 0, 0}, {11, 1, 1}, {15, 5, 5}, {24, 5, 5}, {25, 6, 5}, {34, 10, 5}, {35, 10, 6}};
        for (int[] one : all) {
            Edge.due("by RULE 0 up to " + one[0], x.rules(0, one[0] - 5, false), one[1]);
            Edge.due("by RULE 1 up to " + one[0], x.rules(1, one[0] - 5, false), one[2]);
        }
    }

    private static void oneTalks(LongLine x) {
        Edge.tell(x, "wait if who=0 then 9 else 999 end;");
        x.by(0);
        Edge.ends(x, 2);
    }

    private static void bestRule() {
        Edge.says("BEST RULE for TENTHS. NONE for others.");
        Edge.takesJust(1, 3000, EdgeAnswerTest::twoEnds, (x, n) -> x.bestRule(n), NONE, Edge.ASKED);
        Edge.asks("without ENDS", x -> { }, x -> x.bestRule(3000), 0);
        Edge.says("the one with most CLEAR ones, of like ones the fewest LOST, then the lowest");
        // by RULE 0 both speak in 10 .. 14, by 1 END 0 alone, by 2 END 0 alone, by 3 none until 28
        Edge.asks("none CLEAR, none LOST", EdgeAnswerTest::twoEnds, x -> x.bestRule(10), 0);
        Edge.asks("most CLEAR: 1 of 1 and 2", EdgeAnswerTest::twoEnds, x -> x.bestRule(11), 1);
        Edge.asks("1 against 0", EdgeAnswerTest::twoEnds, x -> x.rules(1, 11, false) - x.rules(0, 11, false), 1);
        LongLine far = new LongLine();
        twoEnds(far);
        far.delay(0, 1, 60);
        far.delay(1, 0, 2);
        // END 1's TENTH 10 comes in 13, when END 0 speaks: LOST by RULE 0 alone
        Edge.due("all alike up to 12", far.bestRule(12), 0);
        Edge.dueRow("none CLEAR in 13", new int[] {far.rules(0, 13, false), far.rules(1, 13, false)}, 0, 0);
        Edge.dueRow("one LOST in 13", new int[] {far.rules(0, 13, true), far.rules(1, 13, true)}, 1, 0);
        Edge.due("the fewest LOST, then the lowest", far.bestRule(13), 1);
        far.rule(2);
        Edge.due("not by the RULE now", far.bestRule(12), 0);
        // by RULE 2 END 0 speaks in 5, and both in 10, HEARD when both are SILENT
        LongLine two = new LongLine();
        two.tellEnd(4, 0, 0, 1);
        two.tellEnd(3, 0, 0, 1);
        Edge.dueRow("CLEAR by each", new int[] {two.rules(0, 12, false), two.rules(1, 12, false), two.rules(2, 12, false),
            two.rules(3, 12, false)}, 2, 2, 3, 1);
        Edge.due("2", two.bestRule(12), 2);
        LongLine over = new LongLine();
        over.tellEnd(90, 0, 0, 3);
        over.tellEnd(90, 0, 0, 3);
        over.speak(0, 3);
        // END 1 is next, and goes on as long as it HEARS nobody
        Edge.due("3", over.bestRule(80), 3);
    }

    // ---- PRICE ----

    private static void price() {
        Edge.says("(each 0 .. 99, m 0 .. 99; at first 0)");
        Edge.takesJust(0, 99, x -> { }, (x, n) -> Edge.flag(x.price(n, 5, 5)), 0, 0);
        Edge.takesJust(0, 99, x -> { }, (x, n) -> Edge.flag(x.price(5, n, 5)), 0, 0);
        Edge.takesJust(0, 99, x -> { }, (x, n) -> Edge.flag(x.price(5, 5, n)), 0, 0);
        Edge.asks("at first 0", x -> { }, x -> x.pence(9000), 0);
        Edge.says("p pence for each minute (600 TENTHS) begun of the first m, q for each behind them");
        int[][] all = {{0, 0}, {1, 10}, {600, 10}, {601, 20}, {1200, 20}, {1201, 23}, {1800, 23}, {1801, 26}, {8400, 56},
            {8401, 59}, {9000, 59}};
        for (int[] one : all) {
            Edge.asks(one[0] + " TENTHS", x -> x.price(10, 3, 2), x -> x.pence(one[0]), one[1]);
        }
        Edge.asks("the first 0", x -> x.price(10, 3, 0), x -> x.pence(601), 6);
        Edge.asks("the first 1", x -> x.price(10, 3, 1), x -> x.pence(601), 13);
        Edge.asks("the first 14", x -> x.price(10, 3, 14), x -> x.pence(9000), 143);
        Edge.asks("the first 15", x -> x.price(10, 3, 15), x -> x.pence(9000), 150);
        Edge.asks("the first 99", x -> x.price(99, 3, 99), x -> x.pence(9000), 15 * 99);
        Edge.says("PENCE for TENTHS (0 .. 9000)");
        Edge.takesJust(0, 9000, x -> x.price(10, 3, 2), (x, n) -> x.pence(n), NONE, Edge.ASKED);
    }

    private static void talkFor(LongLine x, int p, int q, int m) {
        x.tellEnd(0, 0, 0, 1);
        x.tellEnd(99, 0, 0, 1);
        x.price(p, q, m);
    }

    private static void forPence() {
        Edge.says("CLEAR TENTHS by it in as many TENTHS as these pence buy, 3000 at most");
        // END 0 speaks in each TENTH, and is HEARD in each but the first
        int[][] all = {{0, 0}, {9, 0}, {10, 599}, {19, 599}, {20, 1199}, {22, 1199}, {23, 1799}, {25, 1799}, {26, 2399},
            {28, 2399}, {29, 2999}, {31, 2999}, {32, 2999}, {9999, 2999}};
        for (int[] one : all) {
            Edge.asks(one[0] + " pence", x -> talkFor(x, 10, 3, 2), x -> x.forPence(one[0], 0), one[1]);
        }
        Edge.asks("for nothing", x -> talkFor(x, 0, 0, 0), x -> x.forPence(0, 0), 2999);
        Edge.asks("the first minutes for nothing", x -> talkFor(x, 0, 7, 2), x -> x.forPence(6, 0), 1199);
        Edge.asks("the first minutes for nothing", x -> talkFor(x, 0, 7, 2), x -> x.forPence(7, 0), 1799);
        Edge.says("SAID for pence (0 .. 9999) by a RULE. NONE for others.");
        Edge.takesJust(0, 9999, x -> talkFor(x, 10, 3, 2), (x, n) -> x.forPence(n, 0), NONE, Edge.ASKED);
        Edge.takesJust(0, 3, x -> talkFor(x, 10, 3, 2), (x, n) -> x.forPence(50, n), NONE, Edge.ASKED);
    }

    // ---- TWO FRESH ENDS, DRAWN, WIDE, WORTH ----

    private static void comes() {
        Edge.says("COMES: waits 0 .. 99, DELAYS 0 .. 60, LENGTH 1 .. 99, STOPS 0 .. 99. NONE: none, and for others.");
        Edge.takesJust(0, 99, x -> { }, (x, n) -> x.comes(n, 50, 0, 0, 1, 0), NONE, Edge.ASKED);
        Edge.takesJust(0, 99, x -> { }, (x, n) -> x.comes(50, n, 0, 0, 1, 0), NONE, Edge.ASKED);
        Edge.takesJust(0, 60, x -> { }, (x, n) -> x.comes(99, 99, n, 0, 1, 0), NONE, Edge.ASKED);
        Edge.takesJust(0, 60, x -> { }, (x, n) -> x.comes(99, 99, 0, n, 1, 0), NONE, Edge.ASKED);
        Edge.takesJust(1, 99, x -> { }, (x, n) -> x.comes(0, 99, 0, 0, n, 2), NONE, Edge.ASKED);
        Edge.takesJust(0, 99, x -> { }, (x, n) -> x.comes(0, 99, 0, 0, 1, n == 1 ? 2 : n), NONE, Edge.ASKED);
        Edge.asks("alike: none", x -> { }, x -> x.comes(7, 7, 0, 0, 5, 2), NONE);
        Edge.says("when that TURN BEGAN that is the first (by BEGAN, then END) SAID with each TENTH CLEAR, if its last TENTH is HEARD ahead of TENTH 1000 "
            + "(the first ones BEGAN in 0 and count as well); none");
        Edge.asks("the first ones: HEARD in 1, both SILENT", x -> { }, x -> x.comes(5, 5, 0, 0, 1, 2), 0);
        Edge.asks("LONG 2: HEARD in 1, in which both speak", x -> { }, x -> x.comes(5, 5, 0, 0, 2, 0), NONE);
        Edge.asks("LONG 2 by DELAY 1: HEARD in 2", x -> { }, x -> x.comes(5, 5, 1, 1, 2, 0), 0);
        // both yield in 2; END 0 begins in 2 + 5 and 7 .. 8 were quiet
        Edge.asks("YIELDED, then the one who waits less", x -> { }, x -> x.comes(5, 7, 0, 0, 4, 2), 8);
        Edge.asks("by END 1", x -> { }, x -> x.comes(7, 5, 0, 0, 4, 2), 8);
        Edge.asks("its last TENTH is HEARD in 999", x -> { }, x -> x.comes(66, 67, 10, 10, 21, 1), 968);
        Edge.asks("its last TENTH is HEARD in 1000", x -> { }, x -> x.comes(66, 67, 10, 10, 22, 1), NONE);
        Edge.asks("in 999, by END 1", x -> { }, x -> x.comes(67, 66, 10, 10, 21, 1), 968);
        Edge.asks("in 1000, by END 1", x -> { }, x -> x.comes(67, 66, 10, 10, 22, 1), NONE);
        Edge.asks("in 999, farther", x -> { }, x -> x.comes(34, 35, 55, 55, 14, 2), 930);
        Edge.asks("in 1000, farther", x -> { }, x -> x.comes(33, 34, 55, 55, 15, 3), NONE);
        LongLine x = new LongLine();
        x.tellEnd(99, 24, 99, 99);
        x.rule(3);
        Edge.due("without laws, SPREAD and RULE", x.comes(5, 7, 0, 0, 4, 2), 8);
    }

    private static void apart() {
        Edge.says("waits 0 .. 24 of both for which one COMES: how many, the i-th (25 times that of END 0, and that of END 1)");
        // LONG 1, without STOPS and DELAYS: the first ones come for all waits
        Edge.asks("all", x -> { }, x -> x.apart(0, 0, 1, 0, NONE), 625);
        for (int i : new int[] {0, 24, 25, 624}) {
            Edge.asks("the i-th of all", x -> { }, x -> x.apart(0, 0, 1, 0, i), i);
        }
        Edge.asks("behind all", x -> { }, x -> x.apart(0, 0, 1, 0, 625), NONE);
        // LONG 2, STOPS 1: both yield in 1, and the one who waits less begins alone, unless they wait alike
        Edge.asks("all but those alike", x -> { }, x -> x.apart(0, 0, 2, 1, NONE), 600);
        int[][] some = {{0, 1}, {23, 24}, {24, 25}, {25, 27}, {599, 623}, {600, NONE}};
        for (int[] one : some) {
            Edge.asks("number " + one[0], x -> { }, x -> x.apart(0, 0, 2, 1, one[0]), one[1]);
        }
        Edge.says("APART: how many (i NONE), the i-th. NONE if there is none such, and for others.");
        Edge.takesJust(0, 60, y -> { }, (y, n) -> y.apart(n, 0, 5, 2, NONE), NONE, Edge.ASKED);
        Edge.takesJust(0, 60, y -> { }, (y, n) -> y.apart(0, n, 5, 2, NONE), NONE, Edge.ASKED);
        Edge.takesJust(1, 99, y -> { }, (y, n) -> y.apart(0, 0, n, 2, NONE), NONE, Edge.ASKED);
        Edge.takesJust(0, 99, y -> { }, (y, n) -> y.apart(0, 0, 5, n, NONE), NONE, Edge.ASKED);
        Edge.takesJust(-1, 624, y -> { }, (y, n) -> y.apart(0, 0, 1, 0, n), NONE, Edge.ASKED);
    }

    private static void drawnOdds(int there, int back, int s0, int s1, int upper, int lower) {
        LongLine x = new LongLine();
        String what = "drawn " + there + " " + back + " " + s0 + " " + s1;
        Edge.due(what, x.drawn(there, back, s0, s1, false), upper);
        Edge.due(what + ", the lower", x.drawn(there, back, s0, s1, true), lower);
    }

    private static void drawn() {
        Edge.says("(a + 1 + DELAY from 0 to 1 is b at most, or b + 1 + DELAY from 1 to 0 is a at most); in lowest terms");
        drawnOdds(0, 0, 0, 0, 0, 1);
        drawnOdds(0, 0, 0, 1, 1, 2);
        drawnOdds(0, 0, 1, 0, 1, 2);
        drawnOdds(1, 0, 0, 1, 0, 1);
        drawnOdds(0, 1, 1, 0, 0, 1);
        drawnOdds(0, 1, 0, 1, 1, 2);
        drawnOdds(1, 0, 1, 0, 1, 2);
        drawnOdds(0, 0, 1, 1, 1, 2);
        drawnOdds(23, 60, 0, 24, 1, 25);
        drawnOdds(24, 60, 0, 24, 0, 1);
        drawnOdds(60, 23, 24, 0, 1, 25);
        drawnOdds(60, 24, 24, 0, 0, 1);
        drawnOdds(23, 23, 24, 24, 2, 625);
        drawnOdds(23, 24, 24, 24, 1, 625);
        drawnOdds(0, 0, 24, 24, 24, 25);
        Edge.says("DRAWN (s0, s1 0 .. 24): the upper (low false), the lower one (low true). NONE for others.");
        for (boolean low : new boolean[] {false, true}) {
            Edge.takesJust(0, 60, x -> { }, (x, n) -> x.drawn(n, 5, 5, 5, low), NONE, Edge.ASKED);
            Edge.takesJust(0, 60, x -> { }, (x, n) -> x.drawn(5, n, 5, 5, low), NONE, Edge.ASKED);
            Edge.takesJust(0, 24, x -> { }, (x, n) -> x.drawn(5, 5, n, 5, low), NONE, Edge.ASKED);
            Edge.takesJust(0, 24, x -> { }, (x, n) -> x.drawn(5, 5, 5, n, low), NONE, Edge.ASKED);
        }
    }

    private static void wide() {
        Edge.says("the s (0 .. 24) for both by which (s and both DELAYS together) by those ODDS is least; of like ones the lowest; none, if they never come apart");
        Edge.asks("never by 0", x -> { }, x -> x.wide(0, 0), 1);
        // 2 and 3: 8 * 9 / 3 and 9 * 16 / 6
        Edge.asks("of like ones the lowest", x -> { }, x -> x.wide(0, 6), 2);
        Edge.asks("of like ones the lowest, the other way", x -> { }, x -> x.wide(6, 0), 2);
        Edge.asks("just by 24", x -> { }, x -> x.wide(23, 60), 24);
        Edge.asks("just by 24, the other way", x -> { }, x -> x.wide(60, 23), 24);
        Edge.asks("not by 24", x -> { }, x -> x.wide(24, 24), NONE);
        Edge.asks("not by 24", x -> { }, x -> x.wide(60, 60), NONE);
        Edge.says("WIDE. NONE: none, and for others.");
        Edge.takesJust(0, 60, x -> { }, (x, n) -> x.wide(n, 0), NONE, Edge.ASKED);
        Edge.takesJust(0, 60, x -> { }, (x, n) -> x.wide(0, n), NONE, Edge.ASKED);
    }

    private static void worthOdds(int length, int wait, int delay, int k, int upper, int lower) {
        LongLine x = new LongLine();
        String what = "worth " + length + " " + wait + " " + delay + " " + k;
        Edge.due(what, x.worth(length, wait, delay, k, false), upper);
        Edge.due(what + ", the lower", x.worth(length, wait, delay, k, true), lower);
    }

    private static void worth() {
        Edge.says("what is saved of the time a TURN takes (LONG, wait, DELAY together without it; with it the wait is spared, if it is kept): in lowest terms");
        worthOdds(1, 0, 0, 0, 0, 1);
        worthOdds(1, 0, 0, 10, 0, 1);
        worthOdds(1, 99, 0, 10, 99, 100);
        worthOdds(1, 99, 0, 0, 0, 1);
        worthOdds(1, 99, 99, 10, 99, 199);
        worthOdds(99, 99, 99, 10, 1, 3);
        worthOdds(99, 99, 99, 1, 1, 30);
        worthOdds(99, 99, 99, 9, 3, 10);
        worthOdds(10, 6, 4, 5, 3, 20);
        Edge.says("WORTH (length 1 .. 99): the upper (low false), the lower one (low true). NONE for others.");
        for (boolean low : new boolean[] {false, true}) {
            Edge.takesJust(1, 99, x -> { }, (x, n) -> x.worth(n, 5, 5, 5, low), NONE, Edge.ASKED);
            Edge.takesJust(0, 99, x -> { }, (x, n) -> x.worth(5, n, 5, 5, low), NONE, Edge.ASKED);
            Edge.takesJust(0, 99, x -> { }, (x, n) -> x.worth(5, 5, n, 5, low), NONE, Edge.ASKED);
            Edge.takesJust(0, 10, x -> { }, (x, n) -> x.worth(5, 5, 5, n, low), NONE, Edge.ASKED);
        }
    }

    // ---- AGREED and HEARD ----

    private static void agreed(LongLine x, int count) {
        for (int i = 0; i < count; i++) {
            x.agree(99, 99, 0);
        }
    }

    private static void agree() {
        Edge.says("AGREED (8 at most; told): each so many WORDS (1 .. 99), SAVES so much (0 .. 99), NEEDS some told ahead (bits)");
        Edge.takesJust(1, 99, x -> agreed(x, 2), (x, n) -> x.agree(n, 5, 0), -2, 0);
        Edge.takesJust(0, 99, x -> agreed(x, 2), (x, n) -> x.agree(5, n, 0), -2, 0);
        for (int count = 0; count < 8; count++) {
            int told = count;
            Edge.takesJust(0, (1 << told) - 1, x -> agreed(x, told), (x, n) -> x.agree(5, 5, n), -2, 0);
        }
        Edge.says("AGREED: one more (words NONE: none any more): how many there are. -2 for others (NEEDS of some not told), or if there are 8.");
        Edge.takes("an eighth", x -> agreed(x, 7), x -> x.agree(5, 5, 127), -2);
        Edge.refuses("a ninth", x -> agreed(x, 8), x -> x.agree(5, 5, 255), -2, 1);
        Edge.refuses("a ninth of 0 WORDS", x -> agreed(x, 8), x -> x.agree(0, 5, 0), -2, 0);
        Edge.refuses("a ninth that NEEDS a ninth", x -> agreed(x, 8), x -> x.agree(5, 5, 256), -2, 0);
        Edge.refuses("-2 WORDS", x -> agreed(x, 2), x -> x.agree(-2, 5, 0), -2, 0);
        LongLine x = new LongLine();
        for (int i = 1; i <= 8; i++) {
            Edge.due("how many", x.agree(i, i, 0), i);
        }
        Edge.due("none any more", x.agree(NONE, 0, 0), 0);
        Edge.due("none", x.about(7), 0);
        Edge.due("none again", x.agree(NONE, 0, 0), 0);
        Edge.due("one of none", x.agree(4, 4, 0), 1);
        Edge.dueRow("REFUSED", Edge.refusals(x), 0, 0, 0);
        Edge.due("it is the new one", x.least(4), 1);
        Edge.due("alone", x.least(5), NONE);
    }

    private static void least() {
        Edge.says("LEAST to agree on to save so much (0 .. 999)");
        Edge.takesJust(0, 792, x -> agreed(x, 8), (x, n) -> x.least(n), NONE, Edge.ASKED);
        Edge.asks("the most that can be asked", x -> agreed(x, 8), x -> x.least(999), NONE);
        Edge.asks("all", x -> agreed(x, 8), x -> x.least(792), 255);
        Edge.asks("all", x -> agreed(x, 8), x -> x.least(694), 255);
        Edge.asks("the lowest seven", x -> agreed(x, 8), x -> x.least(693), 127);
        Edge.asks("none told", x -> { }, x -> x.least(0), 0);
        Edge.asks("none told", x -> { }, x -> x.least(1), NONE);
        Edge.says("the set with the fewest WORDS that SAVES so much or more, with all it NEEDS; of like ones fewer, then the lowest; none");
        LongLine x = new LongLine();
        x.agree(2, 5, 0);
        x.agree(2, 5, 0);
        x.agree(4, 10, 0);
        x.agree(4, 10, 0);
        x.agree(1, 50, 8);
        int[][] all = {{0, 0}, {1, 1}, {5, 1}, {6, 4}, {10, 4}, {11, 24}, {50, 24}, {60, 24}, {61, 25}, {80, 31}, {81, NONE}};
        for (int[] one : all) {
            Edge.due("to save " + one[0], x.least(one[0]), one[1]);
        }
        // what it NEEDS may need others
        LongLine y = new LongLine();
        y.agree(1, 0, 0);
        y.agree(1, 0, 1);
        y.agree(1, 9, 2);
        Edge.due("all it NEEDS", y.least(9), 7);
    }

    private static void heardOf(LongLine x, int count) {
        for (int i = 0; i < count; i++) {
            x.heard(100, 150, 10, 20);
        }
    }

    private static void heard() {
        Edge.says("HEARD: one more (from NONE: none any more): how many there are. -2 for others (from 0 .. 9000, to 0 .. 9000 and no less; "
            + "0 <= low <= high <= 99), or if there are 8.");
        Edge.takes("from 0", x -> heardOf(x, 2), x -> x.heard(0, 9000, 0, 99), -2);
        Edge.takes("from 9000", x -> heardOf(x, 2), x -> x.heard(9000, 9000, 0, 99), -2);
        Edge.refusesAbove(9000, x -> heardOf(x, 2), (x, n) -> x.heard(n, n, 0, 99), -2, 0);
        Edge.refusesAbove(9000, x -> heardOf(x, 2), (x, n) -> x.heard(n, 9000, 0, 99), -2, 0);
        Edge.refuses("from -2", x -> heardOf(x, 2), x -> x.heard(-2, 9000, 0, 99), -2, 0);
        Edge.refuses("far below", x -> heardOf(x, 2), x -> x.heard(Edge.LOW, 9000, 0, 99), -2, 0);
        Edge.takesJust(0, 9000, x -> heardOf(x, 2), (x, n) -> x.heard(0, n, 0, 99), -2, 0);
        Edge.takesJust(70, 9000, x -> heardOf(x, 2), (x, n) -> x.heard(70, n, 0, 99), -2, 0);
        Edge.takesJust(0, 99, x -> heardOf(x, 2), (x, n) -> x.heard(5, 60, n, 99), -2, 0);
        Edge.takesJust(0, 7, x -> heardOf(x, 2), (x, n) -> x.heard(5, 60, n, 7), -2, 0);
        Edge.takesJust(7, 99, x -> heardOf(x, 2), (x, n) -> x.heard(5, 60, 7, n), -2, 0);
        Edge.takes("an eighth", x -> heardOf(x, 7), x -> x.heard(5, 60, 7, 9), -2);
        Edge.refuses("a ninth", x -> heardOf(x, 8), x -> x.heard(5, 60, 7, 9), -2, 1);
        Edge.refuses("a ninth, and wrong", x -> heardOf(x, 8), x -> x.heard(5, 4, 7, 9), -2, 0);
        LongLine x = new LongLine();
        for (int i = 1; i <= 8; i++) {
            Edge.due("how many", x.heard(i, 9, 0, 99), i);
        }
        Edge.due("none any more", x.heard(NONE, 0, 0, 0), 0);
        Edge.due("none", x.about(8), 0);
        Edge.due("none again", x.heard(NONE, 0, 0, 0), 0);
        Edge.dueRow("REFUSED", Edge.refusals(x), 0, 0, 0);
        Edge.due("all can be again", x.span(true), 122);
    }

    /** SPAN by rows of from, to, low, high. */
    private static void span(int least, int most, int[]... rows) {
        Edge.Setup setup = x -> {
            for (int[] row : rows) {
                x.heard(row[0], row[1], row[2], row[3]);
            }
        };
        Edge.asks("the least", setup, x -> x.span(false), least);
        Edge.asks("the most", setup, x -> x.span(true), most);
    }

    private static void spans() {
        Edge.says("the least and the most both ways together (the 1 of each way, too) can be by all of these (0 .. 122; to less from less high .. low); none");
        span(0, 122);
        span(30, 35, new int[] {100, 140, 5, 10});
        span(0, 0, new int[] {100, 100, 0, 0});
        span(0, 0, new int[] {100, 105, 5, 99});
        span(NONE, NONE, new int[] {100, 105, 6, 99});
        span(0, 5, new int[] {100, 105, 0, 99});
        span(0, 5, new int[] {100, 105, 0, 5});
        span(1, 5, new int[] {100, 105, 0, 4});
        span(122, 122, new int[] {0, 122, 0, 0});
        span(121, 122, new int[] {0, 123, 0, 2});
        span(122, 122, new int[] {0, 132, 0, 10});
        span(NONE, NONE, new int[] {0, 133, 0, 10});
        span(NONE, NONE, new int[] {0, 9000, 0, 99});
        span(20, 20, new int[] {0, 20, 0, 10}, new int[] {0, 30, 10, 10});
        span(20, 20, new int[] {0, 30, 0, 10}, new int[] {0, 30, 10, 20});
        span(NONE, NONE, new int[] {0, 30, 0, 9}, new int[] {0, 30, 10, 20});
        span(11, 12, new int[] {0, 30, 0, 19}, new int[] {0, 30, 18, 20}, new int[] {0, 20, 0, 20});
    }

    // ---- WAY ----

    /** Who yields: STOPS and LENGTH of the one and of the other, DELAYS there and back. */
    private static void way(int want, int later, int[] one, int[] other, int there, int back) {
        LongLine x = new LongLine();
        x.tellEnd(50, 24, one[0], one[1]);
        x.tellEnd(0, 0, other[0], other[1]);
        x.delay(0, 1, there);
        x.delay(1, 0, back);
        Edge.due("way " + later, x.way(0, 1, later), want);
    }

    private static void ways() {
        Edge.says("who YIELDS (bits 0 the one, 1 the other), up to when none of both TURNS goes on");
        // the one speaks in 0 .. 4: the other HEARS it in 1 .. 5
        int[] never = {0, 99};
        way(2, 3, new int[] {0, 5}, new int[] {2, 99}, 0, 0);
        way(0, 4, new int[] {0, 5}, new int[] {2, 99}, 0, 0);
        way(2, 4, new int[] {0, 5}, new int[] {1, 99}, 0, 0);
        way(0, 5, new int[] {0, 5}, new int[] {1, 99}, 0, 0);
        way(2, 5, new int[] {0, 5}, new int[] {1, 99}, 1, 0);
        // the other speaks from 3 on: the one HEARS it from 4 on
        way(1, 3, new int[] {2, 5}, never, 0, 0);
        way(0, 3, new int[] {3, 5}, never, 0, 0);
        way(1, 3, new int[] {3, 6}, never, 0, 0);
        way(0, 3, new int[] {2, 5}, never, 0, 1);
        way(1, 0, new int[] {5, 5}, never, 0, 0);
        way(0, 0, new int[] {6, 5}, never, 0, 0);
        way(3, 0, new int[] {3, 9}, new int[] {3, 9}, 0, 0);
        way(1, 0, new int[] {3, 9}, new int[] {4, 9}, 0, 0);
        way(3, 0, new int[] {3, 9}, new int[] {4, 9}, 1, 1);
        // HEARD in TENTH 2 first, when a TURN of one TENTH is over
        way(0, 0, new int[] {0, 9}, new int[] {1, 1}, 1, 0);
        way(2, 0, new int[] {0, 9}, new int[] {1, 1}, 0, 0);
        way(0, 0, new int[] {1, 1}, new int[] {0, 9}, 0, 1);
        way(1, 0, new int[] {1, 1}, new int[] {0, 9}, 0, 0);
        way(1, 3, new int[] {1, 5}, never, 0, 1);
        way(0, 3, new int[] {1, 4}, never, 0, 1);
        // the other one's TURN is over, and comes yet
        way(1, 0, new int[] {2, 50}, new int[] {0, 3}, 0, 10);
        way(1, 0, new int[] {2, 12}, new int[] {0, 3}, 0, 10);
        way(0, 0, new int[] {2, 11}, new int[] {0, 3}, 0, 10);
        way(0, 0, new int[] {4, 50}, new int[] {0, 3}, 0, 10);
        // the other one has said all when it is PRESSED so long
        way(0, 0, new int[] {0, 9}, new int[] {3, 2}, 0, 0);
        way(2, 0, new int[] {0, 9}, new int[] {2, 2}, 0, 0);
        way(2, 0, new int[] {0, 99}, new int[] {99, 99}, 0, 0);
        way(0, 0, new int[] {0, 98}, new int[] {99, 99}, 0, 0);
        way(1, 0, new int[] {99, 99}, never, 0, 0);
        way(2, 99, new int[] {0, 99}, new int[] {1, 99}, 60, 0);
        way(0, 99, new int[] {1, 99}, new int[] {0, 99}, 0, 60);
        way(1, 97, new int[] {1, 99}, new int[] {0, 99}, 0, 0);
        way(1, 98, new int[] {1, 99}, new int[] {0, 99}, 0, 0);
        way(0, 99, new int[] {1, 99}, new int[] {0, 99}, 0, 0);
        Edge.says("if of two unlike ENDS the one begins, and the other one so many TENTHS later (0 .. 99; both as they are told, "
            + "without laws, fresh, STOPS and LENGTH as told)");
        LongLine live = new LongLine();
        Edge.tell(live, "wait 0;stops 9;long 2;");
        live.by(0);
        live.tellEnd(50, 0, 3, 9);
        live.tellEnd(50, 0, 4, 9);
        live.tellEnd(50, 0, 0, 99);
        live.speak(0, 90);
        live.speak(2, 90);
        live.go(3);
        Edge.dueRow("it goes on by the laws, and is PRESSED", new int[] {live.of(0, 4), live.of(0, 7)}, 1, 2);
        Edge.due("the one", live.way(0, 1, 0), 1);
        Edge.due("the other one", live.way(1, 0, 0), 2);
        Edge.due("as all is said", live.way(0, 1, 6), 1);
        Edge.due("all was said ahead of it", live.way(0, 1, 7), 0);
        Edge.says("WAY: who YIELDS (bits). NONE for others.");
        Edge.takesJust(0, 99, EdgeAnswerTest::twoEnds, (x, n) -> x.way(0, 1, n), NONE, Edge.ASKED);
        others((x, pair) -> x.way(pair[0], pair[1], 3));
    }

    // ---- REFUSED, AN IMAGE, about ----

    private static void refused() {
        Edge.says("REFUSED: how many by a reason (0 .. 2). NONE for others.");
        Edge.takesJust(0, 2, EdgeAnswerTest::twoEnds, (x, n) -> x.refused(n), NONE, Edge.ASKED);
        Edge.says("how many acts (those that change something) could not be: by 0 a NUMBER that isn't one of those told, or what isn't there "
            + "(ENDS, TEXTS), 1 one too many (ENDS, TURNS, YESES, TEXTS, AGREED, HEARD, bytes of the tape, TENTHS beyond 9000), "
            + "2 as things stand (all else)");
        LongLine all = new LongLine();
        all.delay(0, 1, 1);
        all.played(0);
        all.by(0);
        all.price(100, 0, 0);
        Edge.dueRow("numbers, and what isn't there", Edge.refusals(all), 4, 0, 0);
        Edge.ends(all, 5);
        for (int i = 0; i < 91; i++) {
            all.speak(0, 1);
            all.hush(0);
        }
        // the 91st TURN is one too many, and then END 0 is SILENT
        Edge.dueRow("ENDS, TURNS", Edge.refusals(all), 4, 2, 1);
        for (int i = 0; i < 41; i++) {
            all.yes(0);
        }
        for (int i = 0; i < 9; i++) {
            all.agree(1, 1, 0);
            all.heard(1, 1, 0, 0);
        }
        for (int i = 0; i < 16; i++) {
            all.feed(0x20202020, 0x20202020, 0x20202020, 0x20202020, 0x20202020);
        }
        for (int i = 0; i < 5; i++) {
            all.text();
        }
        for (int i = 0; i < 31; i++) {
            all.go(300);
        }
        Edge.dueRow("YESES, AGREED, HEARD, bytes, TEXTS, TENTHS", Edge.refusals(all), 4, 8, 1);
        all.rule(0);
        all.delay(0, 1, 0);
        for (int i = 0; i < 31; i++) {
            all.undo();
        }
        Edge.dueRow("as things stand", Edge.refusals(all), 4, 8, 4);
        Edge.says("Texts with a FAULT and what was PLAYED don't count (but what couldn't be in it). undo() brings none back.");
        LongLine x = new LongLine();
        twoEnds(x);
        Edge.tell(x, "go");
        Edge.dueRow("a FAULT", Edge.refusals(x), 0, 0, 0);
        Edge.tell(x, "go 5;rule 0;");
        x.played(0);
        Edge.dueRow("what couldn't be in it", Edge.refusals(x), 0, 0, 1);
        x.undo();
        Edge.dueRow("behind undo()", Edge.refusals(x), 0, 0, 1);
        x.played(1);
        Edge.dueRow("a TEXT that isn't there", Edge.refusals(x), 1, 0, 1);
        for (int i = 0; i < 100; i++) {
            x.hush(0);
        }
        Edge.dueRow("many", Edge.refusals(x), 1, 0, 101);
    }

    private static void image() {
        Edge.says("AN IMAGE: all as it is, STEPS and REFUSED as well, but the tape and the latest FAULT; TEXTS told behind it are gone behind going back.");
        LongLine x = new LongLine();
        LongLine twin = new LongLine();
        for (LongLine one : new LongLine[] {x, twin}) {
            one.tellEnd(3, 2, 2, 6);
            one.tellEnd(5, 4, 3, 9);
            Edge.tell(one, "wait 4;cold gap*2;");
            one.by(0);
            one.price(3, 2, 1);
            one.agree(2, 5, 0);
            one.agree(2, 9, 1);
            one.heard(5, 60, 3, 9);
            for (int i = 0; i < 31; i++) {
                one.go(1 + i % 4);
            }
            one.hush(7);
            one.rule(0);
            Edge.due("TENTH", one.image(), 76);
        }
        Edge.tell(x, "long 3;");
        Edge.tell(x, "long 4;");
        x.by(2);
        x.tellEnd(1, 0, 0, 1);
        x.price(0, 0, 0);
        x.agree(NONE, 0, 0);
        x.agree(7, 7, 0);
        x.heard(NONE, 0, 0, 0);
        x.heard(1, 1, 0, 0);
        for (int i = 0; i < 35; i++) {
            x.undo();
        }
        x.delay(1, 0, 9);
        x.rule(2);
        x.seed(7);
        x.go(99);
        x.yes(0);
        x.hush(0);
        x.speak(9, 9);
        Edge.due("TENTH", x.back(), 76);
        Edge.dueRow("REFUSED", Edge.refusals(x), 1, 0, 1);
        Edge.alike("all as it was", x, twin);
        LongLine y = new LongLine();
        Edge.tell(y, "go 0;");
        Edge.putOnTape(y, "go 1");
        y.image();
        y.end(2);
        Edge.putOnTape(y, "9");
        y.back();
        Edge.dueRow("the tape stays as it is", new int[] {y.about(9), y.fault(0)}, 3, 2);
        y.text();
        y.back();
        Edge.dueRow("so does the latest FAULT", new int[] {y.fault(0), y.fault(1)}, 1, 3);
        LongLine z = new LongLine();
        z.text();
        z.image();
        z.text();
        z.text();
        z.text();
        z.by(3);
        z.back();
        Edge.dueRow("TEXTS, THE TEXT", new int[] {z.about(4), z.about(5)}, 1, NONE);
        Edge.due("gone", z.played(1), -2);
        Edge.due("the next TEXT", z.text(), 1);
        imageOfSteps();
        imageOfRows();
        Edge.says("All is as at THE IMAGE again (it stays): TENTH.");
        LongLine again = new LongLine();
        again.go(5);
        again.image();
        again.go(5);
        Edge.due("once", again.back(), 5);
        again.undo();
        Edge.due("twice", again.back(), 5);
        Edge.due("STEPS", again.about(6), 1);
        again.go(1);
        Edge.due("a new one", again.image(), 6);
        again.go(1);
        Edge.due("back to it", again.back(), 6);
    }

    /** All 30 STEPS of an image can be taken back, whatever came since. */
    private static void imageOfSteps() {
        LongLine x = new LongLine();
        for (int i = 0; i < 40; i++) {
            x.go(1 + i % 5);
        }
        x.image();
        for (int i = 0; i < 47; i++) {
            x.rule(1 + i % 3);
        }
        int tenth = x.back();
        Edge.dueRow("TENTH, RULE, STEPS", new int[] {tenth, x.about(2), x.about(6)}, 120, 0, 30);
        for (int i = 39; i >= 10; i--) {
            tenth -= 1 + i % 5;
            Edge.due("STEPS yet", x.undo(), i - 10);
            Edge.dueRow("TENTH, RULE", new int[] {x.about(1), x.about(2)}, tenth, 0);
        }
        Edge.due("none any more", x.undo(), NONE);
    }

    /** TURNS, YESES and what is AGREED and HEARD are as at THE IMAGE, even if others came in their place. */
    private static void imageOfRows() {
        LongLine x = Edge.silent(3);
        x.speak(1, 2);
        x.go(4);
        x.yes(0);
        x.agree(3, 8, 0);
        x.heard(10, 50, 5, 9);
        x.image();
        x.agree(NONE, 0, 0);
        x.agree(1, 99, 0);
        x.heard(NONE, 0, 0, 0);
        x.heard(10, 20, 0, 1);
        x.undo();
        x.undo();
        x.undo();
        x.go(7);
        x.speak(2, 9);
        x.yes(1);
        Edge.due("back()", x.back(), 4);
        Edge.dueRow("TURN 0", Edge.turnRow(x, 0), 1, 1, 2, 3, 1);
        Edge.dueRow("YES 0", new int[] {x.said(0, 0), x.said(0, 1), x.said(0, 2)}, 0, 4, 0);
        Edge.dueRow("AGREED", new int[] {x.least(8), x.least(9)}, 1, NONE);
        Edge.dueRow("HEARD", new int[] {x.span(false), x.span(true)}, 31, 35);
        x.agree(4, 8, 0);
        x.agree(9, 20, 2);
        x.image();
        x.agree(NONE, 0, 0);
        x.agree(9, 8, 0);
        x.agree(1, 8, 0);
        x.agree(1, 20, 0);
        x.back();
        Edge.dueRow("WORDS and NEEDS", new int[] {x.least(8), x.least(9), x.least(20)}, 1, 3, 6);
    }

    private static void about() {
        Edge.says("8 HEARD, 9 bytes of the tape. -2 for others.");
        Edge.takesJust(0, 9, EdgeAnswerTest::twoEnds, (x, n) -> x.about(n), -2, Edge.ASKED);
    }

    public static void main(String[] args) {
        changesNothing();
        taken();
        misjoined();
        whose();
        first();
        coldEdges();
        hasteEdges();
        rules();
        bestRule();
        price();
        forPence();
        comes();
        apart();
        drawn();
        wide();
        worth();
        agree();
        least();
        heard();
        spans();
        ways();
        refused();
        image();
        about();
        Edge.finish("part III");
    }
}
