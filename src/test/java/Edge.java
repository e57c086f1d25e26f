import java.io.IOException;
import java.nio.file.Files;
import java.nio.file.Path;
import java.util.ArrayList;
import java.util.Arrays;
import java.util.List;

/**
 * What the tests of edges share. Each of their tests begins with the sentence of the
 * document that it holds the class against; a sentence that the document has not is wrong.
 */
final class Edge {
    static final int NONE = LongLine.NONE;
    static final int LOW = Integer.MIN_VALUE;
    static final int HIGH = Integer.MAX_VALUE;
    /** Instead of a reason, for a call that asks: it is refused, but doesn't count. */
    static final int ASKED = -1;

    private static final Path DOCUMENT = Path.of("../shared/DOC.md");
    private static String document;
    private static String sentence = "";
    private static int sentences;
    private static int wrong;

    interface Setup {
        void on(LongLine x);
    }

    interface Call {
        int on(LongLine x);
    }

    interface NumberCall {
        int on(LongLine x, int number);
    }

    private Edge() {
    }

    // ---- what is due ----

    /** The sentence of the document that the calls behind it are held against. */
    static void says(String quote) {
        sentence = quote;
        sentences++;
        if (document == null) {
            try {
                document = oneLine(Files.readString(DOCUMENT));
            } catch (IOException e) {
                throw new IllegalStateException(e);
            }
        }
        if (!document.contains(oneLine(quote))) {
            fail("the document doesn't say so");
        }
    }

    private static String oneLine(String text) {
        return text.replaceAll("\\s+", " ");
    }

    private static void fail(String what) {
        wrong++;
        System.out.println("\"" + sentence + "\": " + what);
    }

    static void due(String what, int got, int want) {
        if (got != want) {
            fail(what + " answered " + got + ", due is " + want);
        }
    }

    static void due(String what, boolean got, boolean want) {
        due(what, flag(got), flag(want));
    }

    static void dueRow(String what, int[] got, int... want) {
        if (!Arrays.equals(got, want)) {
            fail(what + " answered " + Arrays.toString(got) + ", due is " + Arrays.toString(want));
        }
    }

    static int flag(boolean b) {
        return b ? 1 : 0;
    }

    static void finish(String test) {
        System.out.println(wrong == 0 ? test + ": " + sentences + " sentences hold" : wrong + " are wrong");
        if (wrong != 0) {
            System.exit(1);
        }
    }

    // ---- what stands ----

    static int[] refusals(LongLine x) {
        return new int[] {x.refused(0), x.refused(1), x.refused(2)};
    }

    static int[] turnRow(LongLine x, int i) {
        int[] row = new int[5];
        for (int what = 0; what < 5; what++) {
            row[what] = x.turn(i, what);
        }
        return row;
    }

    /** What can be asked of how things stand, but REFUSED: of TURNS and YESES the latest few. */
    static int[] whole(LongLine x) {
        List<Integer> all = new ArrayList<>();
        for (int what = 0; what < 10; what++) {
            all.add(x.about(what));
        }
        all.add(x.fault(0));
        all.add(x.fault(1));
        int ends = x.about(0);
        for (int e = 0; e < ends; e++) {
            for (int what = 0; what <= 10; what++) {
                all.add(x.of(e, what));
            }
            for (int f = 0; f < ends; f++) {
                all.add(x.of(e, 20 + f));
                all.add(x.through(e, f, false));
                all.add(x.through(e, f, true));
            }
        }
        addTurnsAndYeses(x, all);
        all.add(x.pence(600));
        all.add(x.pence(9000));
        for (int saves : new int[] {1, 5, 7, 10, 14, 60}) {
            all.add(x.least(saves));
        }
        all.add(x.span(false));
        all.add(x.span(true));
        return rowOf(all);
    }

    private static void addTurnsAndYeses(LongLine x, List<Integer> all) {
        int turns = x.turn(NONE, 0);
        int yeses = x.said(NONE, 0);
        all.add(turns);
        all.add(yeses);
        for (int i = Math.max(0, turns - 6); i < turns; i++) {
            for (int what = 0; what < 5; what++) {
                all.add(x.turn(i, what));
            }
        }
        for (int i = Math.max(0, yeses - 3); i < yeses; i++) {
            for (int what : new int[] {0, 1, 2, 10, 11}) {
                all.add(x.said(i, what));
            }
        }
    }

    /** How things go on from here: the STEPS, the tape and the IMAGE, which can't be asked for. */
    private static int[] goneOn(LongLine x) {
        List<Integer> all = new ArrayList<>();
        all.add(x.text());
        all.add(x.fault(0));
        all.add(x.fault(1));
        all.add(x.go(7));
        all.add(x.about(3));
        all.add(x.turn(NONE, 0));
        for (int i = 0; i < 3; i++) {
            all.add(x.undo());
            all.add(x.about(1));
            all.add(x.about(2));
            all.add(x.about(3));
        }
        all.add(x.back());
        all.add(x.about(0));
        all.add(x.about(6));
        return rowOf(all);
    }

    private static int[] rowOf(List<Integer> all) {
        int[] row = new int[all.size()];
        for (int i = 0; i < row.length; i++) {
            row[i] = all.get(i);
        }
        return row;
    }

    /** Whether two objects are alike in all that can be asked, and go on alike. */
    static void alike(String what, LongLine x, LongLine y) {
        dueRow(what + ": what stands", whole(x), whole(y));
        dueRow(what + ": how it goes on", goneOn(x), goneOn(y));
    }

    // ---- calls that are refused, and asked numbers ----

    private static LongLine made(Setup setup) {
        LongLine x = new LongLine();
        setup.on(x);
        return x;
    }

    /** The call is refused for the reason, and leaves all as it was (as a twin without it has it). */
    static void refuses(String what, Setup setup, Call call, int answer, int reason) {
        LongLine x = made(setup);
        LongLine twin = made(setup);
        due(what, call.on(x), answer);
        int[] want = refusals(twin);
        if (reason != ASKED) {
            want[reason]++;
        }
        dueRow(what + ": REFUSED", refusals(x), want);
        alike(what, x, twin);
    }

    /** The call answers so, and changes nothing. */
    static void asks(String what, Setup setup, Call call, int answer) {
        refuses(what, setup, call, answer, ASKED);
    }

    /** The call is not refused. */
    static void takes(String what, Setup setup, Call call, int refusal) {
        LongLine x = made(setup);
        int[] before = refusals(x);
        due(what + " is refused", flag(call.on(x) == refusal), 0);
        dueRow(what + ": REFUSED", refusals(x), before);
    }

    /** The call takes the numbers low .. high and no others. */
    static void takesJust(int low, int high, Setup setup, NumberCall call, int refusal, int reason) {
        takes("the lowest, " + low + ",", setup, x -> call.on(x, low), refusal);
        takes("the highest, " + high + ",", setup, x -> call.on(x, high), refusal);
        refusesBelow(low, setup, call, refusal, reason);
        refusesAbove(high, setup, call, refusal, reason);
    }

    static void refusesBelow(int low, Setup setup, NumberCall call, int refusal, int reason) {
        refuses("one too small, " + (low - 1) + ",", setup, x -> call.on(x, low - 1), refusal, reason);
        refuses("far too small", setup, x -> call.on(x, LOW), refusal, reason);
    }

    static void refusesAbove(int high, Setup setup, NumberCall call, int refusal, int reason) {
        refuses("one too large, " + (high + 1) + ",", setup, x -> call.on(x, high + 1), refusal, reason);
        refuses("far too large", setup, x -> call.on(x, HIGH), refusal, reason);
    }

    // ---- lines to begin with ----

    /** So many ENDS that wait 9 and never stop, and are LONG 5. */
    static void ends(LongLine x, int count) {
        for (int e = 0; e < count; e++) {
            x.tellEnd(9, 0, 0, 5);
        }
    }

    /** So many ENDS that don't begin by themselves in the first 999 TENTHS; TEXT 0 sees to it. */
    static LongLine silent(int count) {
        LongLine x = new LongLine();
        due("a text", tell(x, "wait 999;"), 0);
        x.by(0);
        ends(x, count);
        return x;
    }

    /** As silent(), with these STOPS. */
    static LongLine stopping(int... stops) {
        LongLine x = silent(0);
        for (int s : stops) {
            x.tellEnd(99, 0, s, 5);
        }
        return x;
    }

    /** Puts a text on the tape behind what is there. */
    static void putOnTape(LongLine x, String text) {
        int before = x.about(9);
        for (int i = 0; i < text.length(); i += 20) {
            int[] words = new int[5];
            for (int k = 0; k < 20; k++) {
                int sign = i + k < text.length() ? text.charAt(i + k) : ' ';
                words[k / 4] |= sign << 8 * (3 - k % 4);
            }
            x.feed(words[0], words[1], words[2], words[3], words[4]);
        }
        due("end() of " + text, x.end(before + text.length()), before + text.length());
    }

    /** Puts a text on the tape, which must be empty, and reads it. */
    static int tell(LongLine x, String text) {
        putOnTape(x, text);
        return x.text();
    }
}
