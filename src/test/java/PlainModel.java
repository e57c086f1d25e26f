import java.util.ArrayList;
import java.util.Arrays;
import java.util.List;

/**
 * The document once more, as plainly as it can be said: it keeps who spoke in each
 * TENTH, goes TENTH by TENTH in all it tries, copies all for each STEP, and reads
 * TEXTS into trees. ModelTest holds the class against it.
 */
final class PlainModel {
    static final int NONE = -1;

    static final class Turn {
        int end, began, length, ended = NONE, kind;

        Turn copy() {
            Turn t = new Turn();
            t.end = end;
            t.began = began;
            t.length = length;
            t.ended = ended;
            t.kind = kind;
            return t;
        }
    }

    static final class Yes {
        int end, tenth, meant;
    }

    /** Part I. */
    static final class One {
        int tenth, rule, x = 13;
        int[][] delay = new int[4][4];
        int[][] clear = new int[4][4];
        int[][] lost = new int[4][4];
        boolean[][] spoke = new boolean[4][0];
        boolean[] speaking = new boolean[4];
        int[] quiet = new int[4], patience = new int[4], pressed = new int[4];
        int[] heardLast = {NONE, NONE, NONE, NONE};
        int[] heardTenth = {NONE, NONE, NONE, NONE};
        List<Turn> turns = new ArrayList<>();
        List<Yes> yeses = new ArrayList<>();

        One copy() {
            One c = new One();
            c.tenth = tenth;
            c.rule = rule;
            c.x = x;
            for (int e = 0; e < 4; e++) {
                c.delay[e] = delay[e].clone();
                c.clear[e] = clear[e].clone();
                c.lost[e] = lost[e].clone();
                c.spoke[e] = spoke[e].clone();
            }
            c.speaking = speaking.clone();
            c.quiet = quiet.clone();
            c.patience = patience.clone();
            c.pressed = pressed.clone();
            c.heardLast = heardLast.clone();
            c.heardTenth = heardTenth.clone();
            for (Turn t : turns) {
                c.turns.add(t.copy());
            }
            c.yeses.addAll(yeses);
            return c;
        }

        boolean didSpeak(int e, int t) {
            return t >= 0 && t < spoke[e].length && spoke[e][t];
        }

        void note(int e, int t) {
            if (t >= spoke[e].length) {
                spoke[e] = Arrays.copyOf(spoke[e], Math.max(t + 1, 2 * spoke[e].length));
            }
            spoke[e][t] = true;
        }

        Turn current(int e) {
            for (int i = turns.size() - 1; i >= 0; i--) {
                if (turns.get(i).end == e) {
                    return turns.get(i);
                }
            }
            return null;
        }

        boolean anySpoken(Turn t) {
            for (int u = t.began; u <= tenth && (t.ended == NONE || u < t.ended); u++) {
                if (didSpeak(t.end, u)) {
                    return true;
                }
            }
            return false;
        }
    }

    static final class All {
        List<int[]> told = new ArrayList<>();
        One one = new One();
        List<One> steps = new ArrayList<>();
        List<Parsed> texts = new ArrayList<>();
        int ruling = NONE;
        int[] refused = new int[3];
        int[] price = new int[3];
        List<int[]> agreed = new ArrayList<>();
        List<int[]> heard = new ArrayList<>();

        All copy() {
            All c = new All();
            c.told.addAll(told);
            c.one = one.copy();
            for (One s : steps) {
                c.steps.add(s.copy());
            }
            c.texts.addAll(texts);
            c.ruling = ruling;
            c.refused = refused.clone();
            c.price = price.clone();
            c.agreed.addAll(agreed);
            c.heard.addAll(heard);
            return c;
        }
    }

    private All now = new All();
    private All image = new All();
    private int[] tape = new int[0];
    private int fault = NONE, place = NONE;

    // ---- acts ----

    private int no(int reason, int answer) {
        now.refused[reason]++;
        return answer;
    }

    private boolean no(int reason) {
        now.refused[reason]++;
        return false;
    }

    private boolean end0(int e) {
        return e >= 0 && e < now.told.size();
    }

    private static boolean in(int v, int a, int b) {
        return v >= a && v <= b;
    }

    private void step() {
        now.steps.add(now.one.copy());
        if (now.steps.size() > 30) {
            now.steps.remove(0);
        }
    }

    int tellEnd(int w, int s, int st, int l) {
        if (!in(w, 0, 99) || !in(s, 0, 24) || !in(st, 0, 99) || !in(l, 1, 99)) {
            return no(0, NONE);
        }
        if (now.told.size() == 4) {
            return no(1, NONE);
        }
        now.told.add(new int[] {w, s, st, l});
        return now.told.size() - 1;
    }

    boolean seed(int s) {
        if (!in(s, 0, 9999)) {
            return no(0);
        }
        now.one.x = s * 3 + 13;
        return true;
    }

    boolean delay(int f, int t, int d) {
        if (!end0(f) || !end0(t) || f == t || !in(d, 0, 60)) {
            return no(0);
        }
        if (now.one.delay[f][t] == d) {
            return no(2);
        }
        step();
        now.one.delay[f][t] = d;
        return true;
    }

    boolean rule(int r) {
        if (!in(r, 0, 3)) {
            return no(0);
        }
        if (now.one.rule == r) {
            return no(2);
        }
        step();
        now.one.rule = r;
        return true;
    }

    int speak(int e, int length) {
        if (!end0(e) || !in(length, 1, 99)) {
            return no(0, NONE);
        }
        if (now.one.turns.size() == 90) {
            return no(1, NONE);
        }
        if (now.one.speaking[e]) {
            return no(2, NONE);
        }
        step();
        Turn t = new Turn();
        t.end = e;
        t.began = now.one.tenth + 1;
        t.length = length;
        now.one.turns.add(t);
        now.one.speaking[e] = true;
        now.one.pressed[e] = 0;
        return now.one.turns.size() - 1;
    }

    int hush(int e) {
        if (!end0(e)) {
            return no(0, NONE);
        }
        if (!now.one.speaking[e]) {
            return no(2, NONE);
        }
        step();
        Turn t = now.one.current(e);
        t.ended = now.one.tenth + 1;
        t.kind = 3;
        now.one.speaking[e] = false;
        now.one.quiet[e] = 0;
        return now.one.turns.indexOf(t);
    }

    int yes(int e) {
        if (!end0(e)) {
            return no(0, -2);
        }
        if (now.one.yeses.size() == 40) {
            return no(1, -2);
        }
        step();
        One o = now.one;
        Yes y = new Yes();
        y.end = e;
        y.tenth = o.tenth;
        y.meant = NONE;
        int most = Integer.MIN_VALUE;
        for (int i = 0; i < o.turns.size(); i++) {
            Turn t = o.turns.get(i);
            if (t.end == e || t.ended == NONE || !o.anySpoken(t)) {
                continue;
            }
            int out = t.ended + 1 + o.delay[t.end][e];
            if (out <= o.tenth && out > most) {
                most = out;
                y.meant = i;
            }
        }
        o.yeses.add(y);
        return y.meant;
    }

    int go(int n) {
        if (!in(n, 1, 300)) {
            return no(0, NONE);
        }
        if (now.one.tenth + n > 9000) {
            return no(1, NONE);
        }
        step();
        int began = 0;
        for (int i = 0; i < n; i++) {
            began += tenth(now.one, true, null);
        }
        return began;
    }

    private int draw(One o, int m) {
        int d = o.x % m;
        o.x = (o.x * 197 + 113) % 30091;
        return d;
    }

    /** A TENTH goes by; sums, if there, takes CLEAR and LOST. */
    private int tenth(One o, boolean bounded, int[] sums) {
        o.tenth++;
        int n = now.told.size();
        List<List<Integer>> hears = new ArrayList<>();
        for (int e = 0; e < n; e++) {
            List<Integer> h = new ArrayList<>();
            for (int f = 0; f < n; f++) {
                if (f != e && o.didSpeak(f, o.tenth - 1 - o.delay[f][e])) {
                    h.add(f);
                }
            }
            hears.add(h);
            if (!h.isEmpty()) {
                o.heardLast[e] = h.get(0);
                o.heardTenth[e] = o.tenth;
            }
        }
        int began = 0;
        for (int e = 0; e < n; e++) {
            boolean any = !hears.get(e).isEmpty();
            if (o.speaking[e]) {
                o.pressed[e] = any ? o.pressed[e] + 1 : 0;
                int stops = law(1, e, o);
                Turn t = o.current(e);
                int spoken = 0;
                for (int u = t.began; u < o.tenth; u++) {
                    if (o.didSpeak(e, u)) {
                        spoken++;
                    }
                }
                if (stops != 0 && o.pressed[e] == stops) {
                    t.kind = 2;
                } else if (spoken == t.length) {
                    t.kind = 1;
                } else {
                    o.note(e, o.tenth);
                }
                if (t.kind != 0) {
                    t.ended = o.tenth;
                    o.speaking[e] = false;
                    o.quiet[e] = 0;
                }
            }
            if (!o.speaking[e]) {
                if (any) {
                    o.quiet[e] = 0;
                    continue;
                }
                if (o.quiet[e] == 0) {
                    o.patience[e] = patience(o, e);
                }
                o.quiet[e]++;
                if (o.quiet[e] > o.patience[e]) {
                    if (bounded && o.turns.size() >= 90) {
                        o.quiet[e]--;
                        continue;
                    }
                    Turn t = new Turn();
                    t.end = e;
                    t.began = o.tenth;
                    t.length = law(2, e, o);
                    o.turns.add(t);
                    o.speaking[e] = true;
                    o.pressed[e] = 0;
                    o.note(e, o.tenth);
                    began++;
                }
            }
        }
        for (int e = 0; e < n; e++) {
            boolean clear = hears.get(e).size() == 1 && !o.didSpeak(e, o.tenth);
            for (int f : hears.get(e)) {
                (clear ? o.clear : o.lost)[f][e]++;
                if (sums != null) {
                    sums[clear ? 0 : 1]++;
                }
            }
        }
        return began;
    }

    private int patience(One o, int e) {
        int p = law(0, e, o);
        int spread = now.told.get(e)[1];
        if (spread > 0) {
            p += draw(o, spread + 1);
        }
        if (o.rule == 1) {
            p += 10 * e;
        } else if (o.rule == 2 && e > 0) {
            Turn latest = null;
            for (Turn t : o.turns) {
                if (t.end == e && o.anySpoken(t)) {
                    latest = t;
                }
            }
            boolean called = latest == null ? o.heardTenth[e] != NONE : o.heardTenth[e] >= latest.ended;
            p = called ? p : 9999;
        } else if (o.rule == 3) {
            boolean next = o.heardLast[e] != NONE && (o.heardLast[e] + 1) % now.told.size() == e;
            p = next ? 0 : 3 * p;
        }
        return p;
    }

    int undo() {
        if (now.steps.isEmpty()) {
            return no(2, NONE);
        }
        now.one = now.steps.remove(now.steps.size() - 1);
        return now.steps.size();
    }

    int feed(int a, int b, int c, int d, int e) {
        if (tape.length + 20 > 300) {
            return no(1, NONE);
        }
        int[] more = {a, b, c, d, e};
        int at = tape.length;
        tape = Arrays.copyOf(tape, at + 20);
        for (int i = 0; i < 20; i++) {
            tape[at + i] = more[i / 4] >> 8 * (3 - i % 4) & 255;
        }
        return tape.length;
    }

    int end(int n) {
        if (!in(n, 0, tape.length)) {
            return no(0, NONE);
        }
        tape = Arrays.copyOf(tape, n);
        return n;
    }

    int text() {
        if (now.texts.size() == 4) {
            return no(1, NONE);
        }
        Parsed p = new Parsed(tape);
        tape = new int[0];
        fault = 0;
        place = NONE;
        try {
            p.read();
        } catch (Wrong w) {
            fault = w.fault;
            place = w.place;
            return NONE;
        }
        now.texts.add(p);
        return now.texts.size() - 1;
    }

    int fault(int what) {
        return what == 0 ? fault : what == 1 ? place : NONE;
    }

    boolean by(int t) {
        if (t != NONE && !in(t, 0, now.texts.size() - 1)) {
            return no(0);
        }
        now.ruling = t;
        return true;
    }

    int played(int t) {
        if (!in(t, 0, now.texts.size() - 1)) {
            return no(0, -2);
        }
        List<Object[]> clauses = now.texts.get(t).clauses;
        for (int i = 0; i < clauses.size(); i++) {
            Object[] c = clauses.get(i);
            boolean ok = true;
            switch ((String) c[0]) {
                case "speak": ok = speak((int) c[1], (int) c[2]) != NONE; break;
                case "hush": ok = hush((int) c[1]) != NONE; break;
                case "yes": ok = yes((int) c[1]) != -2; break;
                case "go": ok = go((int) c[1]) != NONE; break;
                case "delay": ok = delay((int) c[1], (int) c[2], (int) c[3]); break;
                case "rule": ok = rule((int) c[1]); break;
                default:
            }
            if (!ok) {
                return i;
            }
        }
        return NONE;
    }

    boolean price(int p, int q, int m) {
        if (!in(p, 0, 99) || !in(q, 0, 99) || !in(m, 0, 99)) {
            return no(0);
        }
        now.price = new int[] {p, q, m};
        return true;
    }

    int agree(int w, int s, int needs) {
        if (w == NONE) {
            now.agreed.clear();
            return 0;
        }
        int n = now.agreed.size();
        if (!in(w, 1, 99) || !in(s, 0, 99) || !in(needs, 0, (1 << n) - 1)) {
            return no(0, -2);
        }
        if (n == 8) {
            return no(1, -2);
        }
        now.agreed.add(new int[] {w, s, needs});
        return n + 1;
    }

    int heard(int f, int t, int lo, int hi) {
        if (f == NONE) {
            now.heard.clear();
            return 0;
        }
        if (!in(f, 0, 9000) || !in(t, 0, 9000) || t < f || lo < 0 || hi < lo || hi > 99) {
            return no(0, -2);
        }
        if (now.heard.size() == 8) {
            return no(1, -2);
        }
        now.heard.add(new int[] {f, t, lo, hi});
        return now.heard.size();
    }

    int image() {
        image = now.copy();
        return now.one.tenth;
    }

    int back() {
        now = image.copy();
        return now.one.tenth;
    }

    // ---- what stands ----

    int of(int e, int what) {
        if (!end0(e)) {
            return -2;
        }
        One o = now.one;
        int turns = 0, cut = 0;
        for (Turn t : o.turns) {
            turns += t.end == e ? 1 : 0;
            cut += t.end == e && t.kind == 2 ? 1 : 0;
        }
        switch (what) {
            case 0: case 1: case 2: case 3: return now.told.get(e)[what];
            case 4: return o.speaking[e] ? 1 : 0;
            case 5: return o.quiet[e];
            case 6: return o.patience[e];
            case 7: return o.pressed[e];
            case 8: return o.heardLast[e];
            case 9: return turns;
            case 10: return cut;
            case 20: case 21: case 22: case 23: return end0(what - 20) ? o.delay[what - 20][e] : -2;
            default: return -2;
        }
    }

    int through(int f, int t, boolean lost) {
        if (!end0(f) || !end0(t) || f == t) {
            return NONE;
        }
        return (lost ? now.one.lost : now.one.clear)[f][t];
    }

    int turn(int i, int what) {
        if (i == NONE) {
            return now.one.turns.size();
        }
        if (!in(i, 0, now.one.turns.size() - 1) || !in(what, 0, 4)) {
            return -2;
        }
        Turn t = now.one.turns.get(i);
        return new int[] {t.end, t.began, t.length, t.ended, t.kind}[what];
    }

    private int taken(Yes y, int e) {
        One o = now.one;
        int best = NONE, began = -5;
        for (int i = 0; i < o.turns.size(); i++) {
            Turn t = o.turns.get(i);
            if (t.end == e && o.anySpoken(t) && t.began <= o.tenth
                    && t.began < y.tenth + 1 + o.delay[y.end][e] && t.began > began) {
                best = i;
                began = t.began;
            }
        }
        return best;
    }

    int said(int i, int what) {
        if (i == NONE) {
            return now.one.yeses.size();
        }
        if (!in(i, 0, now.one.yeses.size() - 1)) {
            return -2;
        }
        Yes y = now.one.yeses.get(i);
        if (in(what, 10, 13)) {
            int e = what - 10;
            return !end0(e) ? -2 : e == y.end ? NONE : taken(y, e);
        }
        return what == 0 ? y.end : what == 1 ? y.tenth : what == 2 ? y.meant : -2;
    }

    int misjoined() {
        int n = 0;
        for (Yes y : now.one.yeses) {
            if (y.meant != NONE) {
                int e = now.one.turns.get(y.meant).end;
                if (y.tenth + 1 + now.one.delay[y.end][e] <= now.one.tenth && taken(y, e) != y.meant) {
                    n++;
                }
            }
        }
        return n;
    }

    int refused(int r) {
        return in(r, 0, 2) ? now.refused[r] : NONE;
    }

    int about(int what) {
        if (!in(what, 0, 9)) {
            return -2;
        }
        return new int[] {now.told.size(), now.one.tenth, now.one.rule, now.one.x, now.texts.size(),
            now.ruling, now.steps.size(), now.agreed.size(), now.heard.size(), tape.length}[what];
    }

    // ---- part III ----

    private static int low(int up, int down, boolean lower) {
        int g = 1;
        for (int i = 1; i <= down; i++) {
            if (up % i == 0 && down % i == 0) {
                g = i;
            }
        }
        return lower ? down / g : up / g;
    }

    int whose(int e, int tenth, int lo, int hi, int turn, boolean lower) {
        if (!end0(e) || !in(tenth, 0, 9000) || !in(lo, 0, 122) || !in(hi, 0, 122) || lo > hi
                || !in(turn, 0, now.one.turns.size() - 1)) {
            return NONE;
        }
        int n = 0;
        for (int w = lo; w <= hi; w++) {
            int best = NONE;
            for (int i = 0; i < now.one.turns.size(); i++) {
                Turn t = now.one.turns.get(i);
                if (t.end == e && t.ended != NONE && now.one.anySpoken(t) && t.ended <= tenth - w
                        && (best == NONE || t.ended > now.one.turns.get(best).ended)) {
                    best = i;
                }
            }
            n += best == turn ? 1 : 0;
        }
        return low(n, hi - lo + 1, lower);
    }

    int first(int a, int b, int e) {
        int n = now.one.turns.size();
        if (!in(a, 0, n - 1) || !in(b, 0, n - 1) || a == b || !(e == NONE || end0(e))) {
            return NONE;
        }
        int[] at = new int[2];
        for (int k = 0; k < 2; k++) {
            Turn t = now.one.turns.get(k == 0 ? a : b);
            at[k] = t.began + (e == NONE || t.end == e ? 0 : 1 + now.one.delay[t.end][e]);
        }
        return at[0] == at[1] ? -2 : at[0] < at[1] ? a : b;
    }

    int cold(int one, int other, boolean knows) {
        if (!end0(one) || !end0(other) || one == other) {
            return NONE;
        }
        One o = now.one;
        int sum = 0;
        for (Turn t : o.turns) {
            if (t.end != other || t.kind != 1) {
                continue;
            }
            int at = Integer.MAX_VALUE;
            for (Turn u : o.turns) {
                int h = u.began + 1 + o.delay[one][other];
                if (u.end == one && o.anySpoken(u) && h >= t.ended && h <= o.tenth) {
                    at = Math.min(at, h);
                }
            }
            if (at == Integer.MAX_VALUE) {
                continue;
            }
            boolean own = false;
            for (Turn u : o.turns) {
                own |= u.end == other && o.anySpoken(u) && u.began >= t.ended && u.began <= at;
            }
            if (own) {
                continue;
            }
            int gap = at - t.ended;
            if (knows) {
                gap = Math.max(0, gap - o.delay[one][other] - o.delay[other][one] - 2);
            }
            sum += seems("cold", "gap", gap, one, gap);
        }
        return sum;
    }

    int haste(int one, int other, boolean knows) {
        if (!end0(one) || !end0(other) || one == other) {
            return NONE;
        }
        One o = now.one;
        int sum = 0;
        for (Turn u : o.turns) {
            int h = u.began + 1 + o.delay[one][other];
            if (u.end != one || !o.anySpoken(u) || h > o.tenth) {
                continue;
            }
            for (Turn t : o.turns) {
                if (t.end == other && o.anySpoken(t) && t.began <= h && (t.ended == NONE || t.ended > h)
                        && (!knows || u.began > t.began + 1 + o.delay[other][one])) {
                    sum += seems("haste", "into", h - t.began, one, 1);
                }
            }
        }
        return sum;
    }

    private int seems(String law, String name, int value, int who, int without) {
        Object[] sum = ruledBy(law);
        if (sum == null) {
            return without;
        }
        long v = eval(sum, n -> n.equals("who") ? who : n.equals("ends") ? now.told.size()
            : n.equals("ruled") ? now.one.rule : value);
        return (int) Math.max(0, Math.min(9999, v));
    }

    private int[] tried(int rule, int tenths) {
        One o = now.one.copy();
        o.rule = rule;
        int[] sums = new int[2];
        for (int i = 0; i < tenths; i++) {
            tenth(o, false, sums);
        }
        return sums;
    }

    int rules(int rule, int tenths, boolean lost) {
        if (!in(rule, 0, 3) || !in(tenths, 1, 3000)) {
            return NONE;
        }
        return tried(rule, tenths)[lost ? 1 : 0];
    }

    int bestRule(int tenths) {
        if (!in(tenths, 1, 3000)) {
            return NONE;
        }
        int best = 0;
        int[] sums = tried(0, tenths);
        for (int r = 1; r < 4; r++) {
            int[] s = tried(r, tenths);
            if (s[0] > sums[0] || s[0] == sums[0] && s[1] < sums[1]) {
                best = r;
                sums = s;
            }
        }
        return best;
    }

    int pence(int tenths) {
        if (!in(tenths, 0, 9000)) {
            return NONE;
        }
        int sum = 0;
        for (int minute = 0; minute * 600 < tenths; minute++) {
            sum += minute < now.price[2] ? now.price[0] : now.price[1];
        }
        return sum;
    }

    int forPence(int pence, int rule) {
        if (!in(pence, 0, 9999) || !in(rule, 0, 3)) {
            return NONE;
        }
        int n = 0;
        while (n < 3000 && pence(n + 1) <= pence) {
            n++;
        }
        return tried(rule, n)[0];
    }

    int comes(int w0, int w1, int there, int back, int length, int stops) {
        if (!in(w0, 0, 99) || !in(w1, 0, 99) || !in(there, 0, 60) || !in(back, 0, 60)
                || !in(length, 1, 99) || !in(stops, 0, 99)) {
            return NONE;
        }
        int[] wait = {w0, w1}, delay = {there, back};
        boolean[][] spoke = new boolean[2][1000];
        List<Turn> turns = new ArrayList<>();
        Turn[] cur = new Turn[2];
        int[] pressed = new int[2], quiet = new int[2], spoken = new int[2];
        for (int e = 0; e < 2; e++) {
            cur[e] = new Turn();
            cur[e].end = e;
            turns.add(cur[e]);
            spoke[e][0] = true;
            spoken[e] = 1;
        }
        for (int t = 1; t < 1000; t++) {
            for (int e = 0; e < 2; e++) {
                int u = t - 1 - delay[1 - e];
                boolean hears = u >= 0 && spoke[1 - e][u];
                if (cur[e] != null) {
                    pressed[e] = hears ? pressed[e] + 1 : 0;
                    if (stops != 0 && pressed[e] == stops) {
                        cur[e].kind = 2;
                    } else if (spoken[e] == length) {
                        cur[e].kind = 1;
                    } else {
                        spoken[e]++;
                        spoke[e][t] = true;
                    }
                    if (cur[e].kind != 0) {
                        cur[e].ended = t;
                        cur[e] = null;
                        quiet[e] = 0;
                    }
                }
                if (cur[e] == null) {
                    quiet[e] = hears ? 0 : quiet[e] + 1;
                    if (!hears && quiet[e] > wait[e]) {
                        cur[e] = new Turn();
                        cur[e].end = e;
                        cur[e].began = t;
                        turns.add(cur[e]);
                        pressed[e] = 0;
                        spoken[e] = 1;
                        spoke[e][t] = true;
                    }
                }
            }
        }
        for (Turn t : turns) {
            if (t.kind != 1 || t.began + length - 1 + 1 + delay[t.end] >= 1000) {
                continue;
            }
            boolean clear = true;
            for (int u = t.began; u < t.began + length; u++) {
                clear &= !spoke[1 - t.end][u + 1 + delay[t.end]];
            }
            if (clear) {
                return t.began;
            }
        }
        return NONE;
    }

    int apart(int there, int back, int length, int stops, int i) {
        if (comes(0, 0, there, back, length, stops) == NONE && (!in(there, 0, 60) || !in(back, 0, 60)
                || !in(length, 1, 99) || !in(stops, 0, 99))) {
            return NONE;
        }
        List<Integer> all = new ArrayList<>();
        for (int a = 0; a < 25; a++) {
            for (int b = 0; b < 25; b++) {
                if (comes(a, b, there, back, length, stops) != NONE) {
                    all.add(25 * a + b);
                }
            }
        }
        return i == NONE ? all.size() : in(i, 0, all.size() - 1) ? all.get(i) : NONE;
    }

    int drawn(int there, int back, int s0, int s1, boolean lower) {
        if (!in(there, 0, 60) || !in(back, 0, 60) || !in(s0, 0, 24) || !in(s1, 0, 24)) {
            return NONE;
        }
        return low(apartOf(there, back, s0, s1), (s0 + 1) * (s1 + 1), lower);
    }

    private static int apartOf(int there, int back, int s0, int s1) {
        int n = 0;
        for (int a = 0; a <= s0; a++) {
            for (int b = 0; b <= s1; b++) {
                n += b - a > there || a - b > back ? 1 : 0;
            }
        }
        return n;
    }

    int wide(int there, int back) {
        if (!in(there, 0, 60) || !in(back, 0, 60)) {
            return NONE;
        }
        int best = NONE;
        java.math.BigInteger up = null, down = null;
        for (int s = 0; s < 25; s++) {
            int n = apartOf(there, back, s, s);
            if (n == 0) {
                continue;
            }
            java.math.BigInteger u = java.math.BigInteger.valueOf((long) (s + there + back) * (s + 1) * (s + 1));
            java.math.BigInteger d = java.math.BigInteger.valueOf(n);
            if (best == NONE || u.multiply(down).compareTo(up.multiply(d)) < 0) {
                best = s;
                up = u;
                down = d;
            }
        }
        return best;
    }

    int worth(int length, int wait, int delay, int k, boolean lower) {
        if (!in(length, 1, 99) || !in(wait, 0, 99) || !in(delay, 0, 99) || !in(k, 0, 10)) {
            return NONE;
        }
        return low(k * wait, 10 * (length + wait + delay), lower);
    }

    int least(int saves) {
        if (!in(saves, 0, 999)) {
            return NONE;
        }
        int best = NONE;
        long cost = Long.MAX_VALUE;
        for (int set = 0; set < 1 << now.agreed.size(); set++) {
            int words = 0, saved = 0, members = 0;
            boolean whole = true;
            for (int i = 0; i < now.agreed.size(); i++) {
                if ((set >> i) % 2 == 1) {
                    int[] a = now.agreed.get(i);
                    words += a[0];
                    saved += a[1];
                    members++;
                    whole &= (a[2] & set) == a[2];
                }
            }
            if (whole && saved >= saves && words * 100L + members < cost) {
                best = set;
                cost = words * 100L + members;
            }
        }
        return best;
    }

    int span(boolean most) {
        int lo = NONE, hi = NONE;
        for (int both = 0; both <= 122; both++) {
            boolean can = true;
            for (int[] h : now.heard) {
                int took = h[1] - h[0] - both;
                can &= in(took, h[2], h[3]);
            }
            if (can) {
                lo = lo == NONE ? both : lo;
                hi = both;
            }
        }
        return most ? hi : lo;
    }

    int way(int one, int other, int later) {
        if (!end0(one) || !end0(other) || one == other || !in(later, 0, 99)) {
            return NONE;
        }
        int[] who = {one, other}, starts = {0, later}, pressed = new int[2], spoken = new int[2];
        boolean[][] spoke = new boolean[2][400];
        boolean[] over = new boolean[2];
        int bits = 0;
        for (int t = 0; t < 400; t++) {
            for (int k = 0; k < 2; k++) {
                int u = t - 1 - now.one.delay[who[1 - k]][who[k]];
                boolean hears = u >= 0 && spoke[1 - k][u];
                if (t < starts[k] || over[k]) {
                    continue;
                }
                int[] told = now.told.get(who[k]);
                if (t > starts[k]) {
                    pressed[k] = hears ? pressed[k] + 1 : 0;
                    if (told[2] != 0 && pressed[k] == told[2]) {
                        over[k] = true;
                        bits |= 1 << k;
                    } else if (spoken[k] == told[3]) {
                        over[k] = true;
                    }
                }
                if (!over[k]) {
                    spoken[k]++;
                    spoke[k][t] = true;
                }
            }
        }
        return bits;
    }

    // ---- laws ----

    private Object[] ruledBy(String law) {
        if (now.ruling == NONE) {
            return null;
        }
        for (Object[] c : now.texts.get(now.ruling).clauses) {
            if (c[0].equals(law)) {
                return (Object[]) c[1];
            }
        }
        return null;
    }

    private int law(int which, int e, One o) {
        int[] told = now.told.get(e);
        Object[] sum = ruledBy(new String[] {"wait", "stops", "long"}[which]);
        if (sum == null) {
            return new int[] {told[0], told[2], told[3]}[which];
        }
        long v = eval(sum, n -> {
            int turns = 0, cut = 0;
            for (Turn t : o.turns) {
                turns += t.end == e ? 1 : 0;
                cut += t.end == e && t.kind == 2 ? 1 : 0;
            }
            switch (n) {
                case "who": return e;
                case "ends": return now.told.size();
                case "ruled": return o.rule;
                case "turns": return turns;
                case "cut": return cut;
                case "waits": return told[0];
                case "spread": return told[1];
                case "stop": return told[2];
                default: return told[3];
            }
        });
        int low = which == 2 ? 1 : 0, high = which == 0 ? 999 : 99;
        return (int) Math.max(low, Math.min(high, v));
    }

    interface Named {
        int value(String name);
    }

    private static long cap(long v) {
        return Math.max(-1000000, Math.min(1000000, v));
    }

    private static long eval(Object[] node, Named names) {
        String op = (String) node[0];
        switch (op) {
            case "number": return (int) node[1];
            case "name": return names.value((String) node[1]);
            case "negate": return -eval((Object[]) node[1], names);
            case "if": return holds((Object[]) node[1], names) ? eval((Object[]) node[2], names)
                : eval((Object[]) node[3], names);
            default:
        }
        long a = eval((Object[]) node[1], names), b = eval((Object[]) node[2], names);
        switch (op) {
            case "+": return cap(a + b);
            case "-": return cap(a - b);
            case "*": return cap(a * b);
            default: return b == 0 ? 0 : cap(a / b);
        }
    }

    private static boolean holds(Object[] node, Named names) {
        String op = (String) node[0];
        switch (op) {
            case "or": return holds((Object[]) node[1], names) | holds((Object[]) node[2], names);
            case "and": return holds((Object[]) node[1], names) & holds((Object[]) node[2], names);
            case "not": return !holds((Object[]) node[1], names);
            default:
        }
        long a = eval((Object[]) node[1], names), b = eval((Object[]) node[2], names);
        switch (op) {
            case "<": return a < b;
            case "<=": return a <= b;
            case ">": return a > b;
            case ">=": return a >= b;
            case "=": return a == b;
            default: return a != b;
        }
    }

    static final class Wrong extends RuntimeException {
        private static final long serialVersionUID = 1L;

        final int fault, place;

        Wrong(int fault, int place) {
            super("fault", null, false, false);
            this.fault = fault;
            this.place = place;
        }
    }

    /** A TEXT, read into trees. */
    static final class Parsed {
        final List<Object[]> clauses = new ArrayList<>();
        private final int[] bytes;
        private int at, from;
        private String token;
        private String law;
        private int open;

        Parsed(int[] bytes) {
            this.bytes = bytes;
        }

        private static boolean letter(int b) {
            return in(b, 'a', 'z') || in(b, 'A', 'Z');
        }

        private static boolean digit(int b) {
            return in(b, '0', '9');
        }

        private void next() {
            while (at < bytes.length && (bytes[at] == 32 || bytes[at] == 10)) {
                at++;
            }
            from = at;
            if (at == bytes.length) {
                token = "";
                return;
            }
            StringBuilder b = new StringBuilder();
            if (letter(bytes[at])) {
                while (at < bytes.length && letter(bytes[at])) {
                    b.append((char) bytes[at++]);
                }
            } else if (digit(bytes[at])) {
                while (at < bytes.length && digit(bytes[at])) {
                    b.append((char) bytes[at++]);
                }
            } else {
                b.append((char) bytes[at++]);
                if ((b.charAt(0) == '<' || b.charAt(0) == '>') && at < bytes.length && bytes[at] == '=') {
                    b.append((char) bytes[at++]);
                }
            }
            token = b.toString();
        }

        private Wrong wrong(int fault) {
            return new Wrong(fault, from);
        }

        private void need(String t) {
            if (!token.equals(t)) {
                throw wrong(1);
            }
            next();
        }

        private int number(int a, int b) {
            if (token.isEmpty() || !digit(token.charAt(0))) {
                throw wrong(1);
            }
            java.math.BigInteger v = new java.math.BigInteger(token);
            if (v.bitLength() > 20 || !in(v.intValue(), a, b)) {
                throw wrong(2);
            }
            next();
            return v.intValue();
        }

        void read() {
            next();
            while (!token.isEmpty()) {
                String word = token;
                boolean isLaw = List.of("wait", "stops", "long", "cold", "haste").contains(word);
                boolean isAct = List.of("speak", "hush", "yes", "go", "delay", "rule").contains(word);
                if (!isLaw && !isAct) {
                    throw wrong(1);
                }
                if (isLaw && clauses.stream().anyMatch(c -> c[0].equals(word))) {
                    throw wrong(4);
                }
                if (clauses.size() == 24) {
                    throw wrong(6);
                }
                next();
                if (isLaw) {
                    law = word;
                    clauses.add(new Object[] {word, sum()});
                } else if (word.equals("go")) {
                    clauses.add(new Object[] {word, number(1, 300)});
                } else {
                    int a = number(0, 3), b = 0, c = 0;
                    if (word.equals("speak")) {
                        need("for");
                        b = number(1, 99);
                    } else if (word.equals("delay")) {
                        need("to");
                        b = number(0, 3);
                        need("by");
                        c = number(0, 60);
                    }
                    clauses.add(new Object[] {word, a, b, c});
                }
                need(";");
            }
        }

        private Object[] sum() {
            Object[] a = product();
            while (token.equals("+") || token.equals("-")) {
                String op = token;
                next();
                a = new Object[] {op, a, product()};
            }
            return a;
        }

        private Object[] product() {
            Object[] a = one();
            while (token.equals("*") || token.equals("/")) {
                String op = token;
                next();
                a = new Object[] {op, a, one()};
            }
            return a;
        }

        private void opens() {
            open++;
            if (open == 9) {
                throw wrong(3);
            }
            next();
        }

        private Object[] one() {
            Object[] a;
            switch (token) {
                case "(":
                    opens();
                    a = sum();
                    need(")");
                    open--;
                    return a;
                case "-":
                    opens();
                    a = new Object[] {"negate", one()};
                    open--;
                    return a;
                case "if":
                    opens();
                    Object[] asks = either();
                    need("then");
                    Object[] yes = sum();
                    need("else");
                    Object[] no = sum();
                    need("end");
                    open--;
                    return new Object[] {"if", asks, yes, no};
                default:
            }
            if (!token.isEmpty() && digit(token.charAt(0))) {
                return new Object[] {"number", number(0, 9999)};
            }
            List<String> all = List.of("who", "ends", "ruled");
            List<String> line = List.of("turns", "cut", "waits", "spread", "stop", "length");
            boolean lineLaw = law.equals("wait") || law.equals("stops") || law.equals("long");
            boolean fits = all.contains(token) || line.contains(token) && lineLaw
                || token.equals("gap") && law.equals("cold") || token.equals("into") && law.equals("haste");
            if (!fits) {
                throw wrong(line.contains(token) || token.equals("gap") || token.equals("into") ? 5 : 1);
            }
            a = new Object[] {"name", token};
            next();
            return a;
        }

        private Object[] either() {
            Object[] a = both();
            while (token.equals("or")) {
                next();
                a = new Object[] {"or", a, both()};
            }
            return a;
        }

        private Object[] both() {
            Object[] a = ask();
            while (token.equals("and")) {
                next();
                a = new Object[] {"and", a, ask()};
            }
            return a;
        }

        private Object[] ask() {
            if (token.equals("not")) {
                opens();
                Object[] a = new Object[] {"not", ask()};
                open--;
                return a;
            }
            Object[] a = sum();
            String op = token;
            if (!List.of("<", "<=", ">", ">=", "=", "#").contains(op)) {
                throw wrong(1);
            }
            next();
            return new Object[] {op, a, sum()};
        }
    }
}
