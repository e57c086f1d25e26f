import com.sun.management.ThreadMXBean;
import java.lang.management.ManagementFactory;
import java.util.Random;

/**
 * Runs of 512 calls with any numbers: none may throw, two objects answer alike, and
 * what a run makes stays far below the room that all calls of a run live in.
 */
public final class RoomTest {
    /** The room has 7.3 million fields and elements; this is a twentieth of it in bytes. */
    private static final long MOST_BYTES = 7_300_000L * 4 / 20;
    private static final int[] ODD = {Integer.MIN_VALUE, Integer.MIN_VALUE + 1, -1000, -2, -1, 0, 1, 2, 3, 4, 5, 8, 9,
        10, 11, 13, 20, 23, 24, 25, 39, 40, 60, 61, 89, 90, 99, 100, 122, 123, 255, 256, 299, 300, 301, 999, 1000, 3000,
        3001, 8999, 9000, 9001, 9999, 10000, Integer.MAX_VALUE - 1, Integer.MAX_VALUE};
    private static int wrong;

    private static void check(boolean holds, String what) {
        if (!holds) {
            wrong++;
            System.out.println(what);
        }
    }

    private static int any(Random r) {
        int kind = r.nextInt(4);
        return kind == 0 ? ODD[r.nextInt(ODD.length)] : kind == 1 ? r.nextInt(100) : r.nextInt(5);
    }

    private static int flag(boolean b) {
        return b ? 1 : 0;
    }

    private static int signs(Random r) {
        String some = "wait 1+2;go 3;long(-if<>=#*/)\n;speak 0 for 9;cold gap$";
        int word = 0;
        for (int i = 0; i < 4; i++) {
            word = word << 8 | some.charAt(r.nextInt(some.length()));
        }
        return word;
    }

    private static int call(LongLine x, Random r) {
        int a = any(r), b = any(r), c = any(r), d = any(r), e = any(r), f = any(r);
        boolean y = r.nextBoolean();
        switch (r.nextInt(50)) {
            case 0: return x.tellEnd(a, b, c, d);
            case 1: return flag(x.seed(a));
            case 2: return flag(x.delay(a, b, c));
            case 3: return flag(x.rule(a));
            case 4: return x.speak(a, b);
            case 5: return x.hush(a);
            case 6: return x.yes(a);
            case 7: case 45: case 46: return x.go(a);
            case 8: return x.feed(signs(r), signs(r), signs(r), signs(r), signs(r));
            case 9: return x.end(a);
            case 10: return x.text();
            case 11: return x.fault(a);
            case 12: return flag(x.by(a));
            case 13: return x.played(a);
            case 14: return x.undo();
            case 15: return x.of(a, b);
            case 16: return x.through(a, b, y);
            case 17: return x.turn(a, b);
            case 18: return x.said(a, b);
            case 19: return x.misjoined();
            case 20: return x.whose(a, b, c, d, e, y);
            case 21: return x.first(a, b, c);
            case 22: return x.cold(a, b, y);
            case 23: return x.haste(a, b, y);
            case 24: return x.rules(a, b, y);
            case 25: return x.bestRule(a);
            case 26: return flag(x.price(a, b, c));
            case 27: return x.pence(a);
            case 28: return x.forPence(a, b);
            case 29: return x.comes(a, b, c, d, e, f);
            case 30: return x.apart(a, b, c, d, e);
            case 31: return x.drawn(a, b, c, d, y);
            case 32: return x.wide(a, b);
            case 33: return x.worth(a, b, c, d, y);
            case 34: return x.agree(a, b, c);
            case 35: return x.least(a);
            case 36: return x.heard(a, b, c, d);
            case 37: return x.span(y);
            case 38: return x.way(a, b, c);
            case 39: return x.refused(a);
            case 40: return x.image();
            case 41: return x.back();
            case 42: return x.about(a);
            case 43: return x.feed(a, b, c, d, e);
            default: return x.tellEnd(r.nextInt(9), r.nextInt(3), r.nextInt(4), 1 + r.nextInt(9));
        }
    }

    private static void anyNumbers(long seed) {
        LongLine one = new LongLine();
        LongLine other = new LongLine();
        for (int i = 0; i < 512; i++) {
            long draws = seed * 1000 + i;
            check(call(one, new Random(draws)) == call(other, new Random(draws)), "two objects do not answer alike");
        }
    }

    private static long bytesOf(long seed) {
        ThreadMXBean threads = (ThreadMXBean) ManagementFactory.getThreadMXBean();
        long id = Thread.currentThread().getId();
        Random r = new Random(seed);
        long before = threads.getThreadAllocatedBytes(id);
        LongLine x = new LongLine();
        for (int e = 0; e < 4; e++) {
            x.tellEnd(e, e, 2, 3);
        }
        for (int i = 0; i < 500; i++) {
            dearCall(x, i, r);
        }
        return threads.getThreadAllocatedBytes(id) - before;
    }

    private static void dearCall(LongLine x, int i, Random r) {
        switch (i % 12) {
            case 0: x.image(); break;
            case 1: x.back(); break;
            case 2: x.text(); break;
            case 3: x.played(r.nextInt(4)); break;
            case 4: x.bestRule(3000); break;
            case 5: x.apart(i % 60, 3, 5, 2, -1); break;
            case 6: x.feed(0x676f2033, 0x3b202020, 0x20202020, 0x20202020, 0x20202020); break;
            case 7: x.undo(); break;
            case 8: x.least(5); break;
            default: x.go(1 + r.nextInt(9));
        }
    }

    public static void main(String[] args) {
        for (long seed = 0; seed < 300; seed++) {
            anyNumbers(seed);
        }
        bytesOf(0);
        for (long seed = 1; seed < 6; seed++) {
            long bytes = bytesOf(seed);
            check(bytes < MOST_BYTES, "a run makes " + bytes + " bytes");
        }
        System.out.println(wrong == 0 ? "nothing throws, and there is room" : wrong + " are wrong");
        if (wrong != 0) {
            System.exit(1);
        }
    }
}
