import java.lang.reflect.Method;
import java.util.ArrayList;
import java.util.Arrays;
import java.util.Comparator;
import java.util.List;
import java.util.Random;

/**
 * Holds LongLine against PlainModel: runs of 512 calls by a fixed row of draws,
 * the same on both; each answer must be the same. With arguments: first seed, how many.
 */
public final class ModelTest {
    private final Random random;
    private final LongLine line = new LongLine();
    private final PlainModel model = new PlainModel();
    private final List<String> calls = new ArrayList<>();
    private final boolean wild;
    private final int longest;
    private final boolean late;
    private boolean failed;

    private static final Method[] METHODS = methods();

    private ModelTest(long seed) {
        random = new Random(seed * 7919 + 17);
        wild = seed % 5 == 4;
        late = seed % 7 == 6;
        longest = new int[] {3, 8, 30, 99}[(int) (seed % 4)];
    }

    private static Method[] methods() {
        List<Method> all = new ArrayList<>();
        for (Method m : LongLine.class.getDeclaredMethods()) {
            if (java.lang.reflect.Modifier.isPublic(m.getModifiers())) {
                all.add(m);
            }
        }
        all.sort(Comparator.comparing(Method::getName));
        return all.toArray(new Method[0]);
    }

    private int call(String name, Object... args) {
        calls.add(name + Arrays.toString(args));
        try {
            Method method = null;
            for (Method m : METHODS) {
                if (m.getName().equals(name)) {
                    method = m;
                }
            }
            Method due = PlainModel.class.getDeclaredMethod(name, method.getParameterTypes());
            Object got = method.invoke(line, args);
            Object want = due.invoke(model, args);
            if (!got.equals(want)) {
                System.out.println("call " + calls.size() + " " + calls.get(calls.size() - 1)
                    + " answered " + got + ", the model " + want);
                failed = true;
            }
            return got instanceof Boolean ? (Boolean) got ? 1 : 0 : (Integer) got;
        } catch (ReflectiveOperationException e) {
            throw new IllegalStateException(calls.get(calls.size() - 1), e);
        }
    }

    private int upTo(int n) {
        return random.nextInt(n + 1);
    }

    /** A number of low .. high, now and then one beside them. */
    private int number(int low, int high) {
        int odd = random.nextInt(wild ? 12 : 60);
        if (odd == 0) {
            return low - 1;
        }
        if (odd == 1) {
            return high + 1;
        }
        if (odd == 2) {
            int[] far = {Integer.MIN_VALUE, Integer.MAX_VALUE, -2, 10000, 1 << 20, -1000};
            return far[random.nextInt(far.length)];
        }
        if (odd == 3) {
            return random.nextBoolean() ? low : high;
        }
        return low + random.nextInt(high - low + 1);
    }

    private int anEnd() {
        return number(0, Math.max(0, line.about(0) - 1));
    }

    private int aTurn() {
        return number(0, Math.max(0, line.turn(-1, 0) - 1));
    }

    private void tellEnds() {
        int n = 1 + upTo(3);
        for (int i = 0; i < n; i++) {
            call("tellEnd", upTo(longest), random.nextInt(3) == 0 ? upTo(24) : upTo(3), upTo(6), 1 + upTo(longest - 1));
        }
    }

    private void tellDelays() {
        for (int a = 0; a < 4; a++) {
            for (int b = 0; b < 4; b++) {
                if (a != b && random.nextBoolean()) {
                    call("delay", a, b, random.nextInt(3) == 0 ? upTo(60) : upTo(8));
                }
            }
        }
    }

    private void feedText(String text) {
        call("end", 0);
        int n = Math.min(300, text.length());
        for (int i = 0; i < n; i += 20) {
            int[] words = new int[5];
            for (int k = 0; k < 20; k++) {
                int b = i + k < text.length() ? text.charAt(i + k) : 32;
                words[k / 4] |= (b & 255) << 8 * (3 - k % 4);
            }
            call("feed", words[0], words[1], words[2], words[3], words[4]);
        }
        call("end", n);
        call("text");
        call("fault", 0);
        call("fault", 1);
    }

    private String word(String... of) {
        return of[random.nextInt(of.length)];
    }

    private String sum(int depth, String names) {
        StringBuilder b = new StringBuilder(product(depth, names));
        while (random.nextInt(3) == 0) {
            b.append(word("+", "-", " + ", "-")).append(product(depth, names));
        }
        return b.toString();
    }

    private String product(int depth, String names) {
        StringBuilder b = new StringBuilder(one(depth, names));
        while (random.nextInt(4) == 0) {
            b.append(word("*", "/", "\n/ ", "*")).append(one(depth, names));
        }
        return b.toString();
    }

    private String one(int depth, String names) {
        switch (random.nextInt(depth > 0 ? 8 : 4)) {
            case 0: return "" + upTo(5);
            case 1: return random.nextInt(8) == 0 ? "" + (9900 + upTo(110)) : "" + upTo(30);
            case 2: case 3: return word(names.split(" "));
            case 4: return "(" + sum(depth - 1, names) + ")";
            case 5: return "-" + one(depth - 1, names);
            default: return "if " + either(depth - 1, names) + " then " + sum(depth - 1, names)
                + " else " + sum(depth - 1, names) + " end";
        }
    }

    private String either(int depth, String names) {
        String text = ask(depth, names);
        while (random.nextInt(3) == 0) {
            text += word(" or ", " and ") + ask(depth, names);
        }
        return text;
    }

    private String ask(int depth, String names) {
        if (depth > 0 && random.nextInt(4) == 0) {
            return "not " + ask(depth - 1, names);
        }
        return sum(depth, names) + word("<", "<=", ">", ">=", "=", "#") + sum(depth, names);
    }

    private String law(String law) {
        String names = "who ends ruled" + (law.equals("cold") ? " gap" : law.equals("haste") ? " into"
            : " turns cut waits spread stop length");
        if (random.nextInt(12) == 0) {
            names = "who turns cut waits stop length gap into";
        }
        return law + " " + sum(upTo(3), names) + ";";
    }

    private String clause() {
        switch (random.nextInt(9)) {
            case 0: return "speak " + upTo(3) + " for " + (1 + upTo(9)) + ";";
            case 1: return "hush " + upTo(3) + ";";
            case 2: return "yes " + upTo(3) + ";";
            case 3: case 4: return "go " + (1 + upTo(20)) + ";";
            case 5: return "delay " + upTo(3) + " to " + upTo(3) + " by " + upTo(60) + ";";
            case 6: return "rule " + upTo(3) + ";";
            default: return law(word("wait", "stops", "long", "cold", "haste"));
        }
    }

    private String aText() {
        StringBuilder b = new StringBuilder();
        List<String> laws = new ArrayList<>(List.of("wait", "stops", "long", "cold", "haste"));
        while (b.length() < 240 && random.nextInt(6) != 0) {
            if (random.nextInt(3) == 0 && !laws.isEmpty()) {
                b.append(law(laws.remove(random.nextInt(laws.size()))));
            } else {
                b.append(clause());
            }
            b.append(word("", "", " ", "\n"));
        }
        int changes = random.nextInt(3) == 0 ? 1 + upTo(2) : 0;
        for (int i = 0; i < changes && b.length() > 0; i++) {
            int at = random.nextInt(b.length());
            switch (random.nextInt(4)) {
                case 0: b.deleteCharAt(at); break;
                case 1: b.insert(at, word("(", "-", "not ", "if ", "gap", " 10000 ", "$", ")", ";", "<", "=", "end ")); break;
                case 2: b.setCharAt(at, word("(", "9", "a", ";", " ", "\t", "#", "W").charAt(0)); break;
                default: b.setLength(at);
            }
        }
        return b.toString();
    }

    private String aDeepText() {
        StringBuilder b = new StringBuilder("wait ");
        int depth = 6 + upTo(4);
        StringBuilder close = new StringBuilder();
        for (int i = 0; i < depth; i++) {
            switch (random.nextInt(4)) {
                case 0: b.append("("); close.insert(0, ")"); break;
                case 1: b.append("-"); break;
                case 2: b.append("if 1<"); close.insert(0, " then 2 else 3 end"); break;
                default: b.append("if not 4>"); close.insert(0, " then who else turns+1 end"); i++;
            }
        }
        return b.append("7").append(close).append(";").toString();
    }

    private String aLongText() {
        StringBuilder b = new StringBuilder();
        int n = 23 + upTo(3);
        for (int i = 0; i < n; i++) {
            b.append(i % 7 == 6 ? "go 3;" : "yes 0;");
        }
        return b + word("", "wait 1;", "x", "long 5;wait 1;wait 2;");
    }

    private void act() {
        switch (random.nextInt(20)) {
            case 0: call("tellEnd", number(0, 99), number(0, 24), number(0, 99), number(1, 99)); break;
            case 1: call("seed", number(0, 9999)); break;
            case 2: call("delay", anEnd(), anEnd(), number(0, 60)); break;
            case 3: call("rule", number(0, 3)); break;
            case 4: case 5: call("speak", anEnd(), number(1, longest)); break;
            case 6: call("hush", anEnd()); break;
            case 7: case 8: call("yes", anEnd()); break;
            case 9: case 10: case 11: case 12: call("go", late ? 300 - upTo(3) : number(1, wild ? 300 : 3 + longest)); break;
            case 13: {
                int n = 1 + (random.nextInt(4) == 0 ? upTo(20) : upTo(2));
                for (int i = 0; i < n; i++) {
                    call("undo");
                }
                break;
            }
            case 14: feedText(random.nextInt(5) == 0 ? aDeepText() : random.nextInt(6) == 0 ? aLongText() : aText()); break;
            case 15: call("by", number(-1, Math.max(0, line.about(4) - 1))); break;
            case 16: call("played", number(0, Math.max(0, line.about(4) - 1))); break;
            case 17: call("price", number(0, 99), number(0, 99), random.nextInt(3) == 0 ? number(0, 99) : upTo(6)); break;
            case 18:
                if (random.nextInt(4) == 0) {
                    call(random.nextBoolean() ? "image" : "back");
                }
                break;
            default:
                if (random.nextBoolean()) {
                    int n = line.about(7);
                    call("agree", random.nextInt(20) == 0 ? -1 : number(1, 99), number(0, 99),
                        random.nextInt(8) == 0 ? upTo(511) : random.nextInt(1 << n));
                } else {
                    int from = number(0, 8000);
                    call("heard", random.nextInt(12) == 0 ? -1 : from, from + number(0, 130), number(0, 20), number(20, 99));
                }
        }
    }

    private void ask() {
        boolean yes = random.nextBoolean();
        switch (random.nextInt(24)) {
            case 0: call("of", anEnd(), number(0, 11)); break;
            case 1: call("of", anEnd(), number(20, 23)); break;
            case 2: case 3: call("through", anEnd(), anEnd(), yes); break;
            case 4: call("turn", aTurn(), number(0, 4)); break;
            case 5: call("said", number(0, Math.max(0, line.said(-1, 0) - 1)), number(0, 13)); break;
            case 6: call("misjoined"); break;
            case 7: {
                int low = upTo(60);
                call("whose", anEnd(), random.nextBoolean() ? number(0, 9000) : line.about(1), low, number(low, 122), aTurn(), yes);
                break;
            }
            case 8: call("first", aTurn(), aTurn(), random.nextBoolean() ? -1 : anEnd()); break;
            case 9: call("cold", anEnd(), anEnd(), yes); break;
            case 10: call("haste", anEnd(), anEnd(), yes); break;
            case 11: call("rules", number(0, 3), random.nextInt(4) == 0 ? number(1, 3000) : number(1, 200), yes); break;
            case 12: call("bestRule", random.nextInt(6) == 0 ? number(1, 3000) : number(1, 200)); break;
            case 13: call("pence", random.nextBoolean() ? 600 * upTo(9) + upTo(1) : number(0, 9000)); break;
            case 14:
                if (random.nextInt(3) == 0) {
                    call("forPence", random.nextBoolean() ? upTo(300) : number(0, 9999), number(0, 3));
                }
                break;
            case 15: call("comes", number(0, 30), number(0, 30), number(0, 60), number(0, 60), number(1, 99), number(0, 99)); break;
            case 16: call("drawn", number(0, 60), number(0, 60), number(0, 24), number(0, 24), yes); break;
            case 17: call("wide", number(0, 60), number(0, 60)); break;
            case 18: call("worth", number(1, 99), number(0, 99), number(0, 99), number(0, 10), yes); break;
            case 19: call("least", random.nextBoolean() ? upTo(200) : number(0, 999)); break;
            case 20: call("span", yes); break;
            case 21: call("way", anEnd(), anEnd(), number(0, longest)); break;
            case 22: call("refused", number(0, 2)); break;
            default: call("about", number(0, 9));
        }
    }

    /** All that can be asked for of how things stand. */
    private void askAll() {
        for (int what = 0; what < 10; what++) {
            call("about", what);
        }
        for (int e = 0; e < line.about(0); e++) {
            for (int what = 0; what <= 23; what++) {
                call("of", e, what);
            }
            for (int f = 0; f < line.about(0); f++) {
                call("through", e, f, false);
                call("through", e, f, true);
                call("cold", e, f, false);
                call("cold", e, f, true);
                call("haste", e, f, false);
                call("haste", e, f, true);
            }
        }
        for (int i = 0; i < line.turn(-1, 0); i++) {
            for (int what = 0; what < 5; what++) {
                call("turn", i, what);
            }
        }
        for (int i = 0; i < line.said(-1, 0); i++) {
            for (int what = 0; what < 14; what++) {
                call("said", i, what);
            }
        }
        call("misjoined");
        for (int r = 0; r < 3; r++) {
            call("refused", r);
        }
    }

    private boolean run() {
        if (random.nextInt(8) != 0) {
            tellEnds();
        }
        if (random.nextInt(4) != 0) {
            tellDelays();
        }
        while (calls.size() < 400 && !failed) {
            if (random.nextInt(3) == 0) {
                ask();
            } else {
                act();
            }
            if (random.nextInt(100) == 0 && !failed) {
                askAll();
            }
        }
        if (!failed) {
            askAll();
        }
        return !failed;
    }

    private static boolean pairs(long seed) {
        Random random = new Random(seed);
        LongLine line = new LongLine();
        PlainModel model = new PlainModel();
        int[] maxDelay = {0, 2, 10, 60}, maxLength = {1, 4, 20, 99}, maxStops = {1, 3, 12, 99};
        for (int i = 0; i < 250; i++) {
            int wait = new int[] {2, 7, 24, 99}[random.nextInt(4)];
            int[] a = {random.nextInt(wait + 1), random.nextInt(wait + 1),
                random.nextInt(maxDelay[random.nextInt(4)] + 1), random.nextInt(maxDelay[random.nextInt(4)] + 1),
                1 + random.nextInt(maxLength[random.nextInt(4)]), random.nextInt(maxStops[random.nextInt(4)] + 1)};
            int got = line.comes(a[0], a[1], a[2], a[3], a[4], a[5]);
            int want = model.comes(a[0], a[1], a[2], a[3], a[4], a[5]);
            if (got != want) {
                System.out.println("comes" + Arrays.toString(a) + " answered " + got + ", the model " + want);
                return false;
            }
            if (i % 125 == 0) {
                int n = model.apart(a[2], a[3], a[4], a[5], -1);
                int which = n == 0 ? 0 : random.nextInt(n);
                if (line.apart(a[2], a[3], a[4], a[5], -1) != n
                        || line.apart(a[2], a[3], a[4], a[5], which) != model.apart(a[2], a[3], a[4], a[5], which)
                        || line.apart(a[2], a[3], a[4], a[5], n) != -1) {
                    System.out.println("apart" + Arrays.toString(a) + " is not as the model's");
                    return false;
                }
            }
        }
        return true;
    }

    private static boolean ways(long seed) {
        Random random = new Random(seed);
        LongLine line = new LongLine();
        PlainModel model = new PlainModel();
        int most = random.nextBoolean() ? 6 : 30;
        for (int e = 0; e < 4; e++) {
            int stops = random.nextInt(most), length = 1 + random.nextInt(most);
            line.tellEnd(0, 0, stops, length);
            model.tellEnd(0, 0, stops, length);
        }
        for (int i = 0; i < 400; i++) {
            int one = random.nextInt(4), other = random.nextInt(4), later = random.nextInt(most);
            if (random.nextInt(3) == 0) {
                int delay = random.nextInt(most);
                line.delay(one, other, delay);
                model.delay(one, other, delay);
            }
            if (line.way(one, other, later) != model.way(one, other, later)) {
                System.out.println("way of seed " + seed + " is not as the model's");
                return false;
            }
        }
        return true;
    }

    public static void main(String[] args) {
        long from = args.length > 0 ? Long.parseLong(args[0]) : 0;
        long count = args.length > 1 ? Long.parseLong(args[1]) : 120;
        int wrong = 0;
        for (long seed = from; seed < from + count && wrong < 5; seed++) {
            ModelTest test = new ModelTest(seed);
            if (!test.run()) {
                wrong++;
                System.out.println("seed " + seed + ": " + (args.length > 2 ? test.calls : ""));
            }
            if (seed % 4 == 0 && !(pairs(seed) && ways(seed))) {
                wrong++;
            }
        }
        System.out.println(wrong == 0 ? "the class and the model answer alike" : "they do not answer alike");
        if (wrong != 0) {
            System.exit(1);
        }
    }
}
