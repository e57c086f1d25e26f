import java.io.IOException;
import java.lang.reflect.Method;
import java.lang.reflect.Modifier;
import java.nio.file.Files;
import java.nio.file.Path;

/** Holds README.md to what it says: its example, its calls and its tests. */
public final class ReadmeTest {
    private static final Path TESTS = Path.of("src/test/java");
    private static int wrong;

    private ReadmeTest() {
    }

    private static void check(boolean holds, String what) {
        if (!holds) {
            wrong++;
            System.out.println("README.md: " + what);
        }
    }

    /** A line of the example, and the answer that its comment begins with. */
    private static void line(String page, String code, Object answer) {
        boolean told = page.lines().anyMatch(l -> l.startsWith(code + " ") && l.contains("// " + answer + ": "));
        check(told, code + " answers " + answer + ", and the page doesn't say so");
    }

    private static void example(String page) {
        LongLine line = new LongLine();
        int a = line.tellEnd(3, 0, 2, 5);
        line(page, "int a = line.tellEnd(3, 0, 2, 5);", a);
        int b = line.tellEnd(6, 0, 4, 4);
        line(page, "int b = line.tellEnd(6, 0, 4, 4);", b);
        line(page, "boolean done = line.delay(a, b, 2);", line.delay(a, b, 2));
        line(page, "int begun = line.go(20);", line.go(20));
        line(page, "int clear = line.through(a, b, false);", line.through(a, b, false));
        line(page, "int kind = line.turn(0, 4);", line.turn(0, 4));
        line(page, "int meant = line.yes(b);", line.yes(b));
        line(page, "int taken = line.said(0, 10 + a);", line.said(0, 10 + a));
        line(page, "int best = line.bestRule(100);", line.bestRule(100));
        line(page, "int left = line.undo();", line.undo());
        line(page, "int none = line.speak(7, 1);", line.speak(7, 1));
        line(page, "int refused = line.refused(0);", line.refused(0));
        check(block(page, "java").lines().count() == 13, "a line of the example is not tried here");
    }

    private static String block(String page, String kind) {
        int from = page.indexOf("```" + kind + "\n");
        int to = from < 0 ? -1 : page.indexOf("```", from + 3);
        return to < 0 ? "" : page.substring(from + kind.length() + 4, to);
    }

    private static void script(String page) {
        LongLine x = new LongLine();
        String text = block(page, "text");
        check(!text.isEmpty(), "it has no text");
        Edge.putOnTape(x, text);
        check(x.text() == 0, "its text has FAULT " + x.fault(0) + " at " + x.fault(1));
    }

    private static void calls(String page) {
        for (Method call : LongLine.class.getDeclaredMethods()) {
            if (Modifier.isPublic(call.getModifiers())) {
                String name = "`" + call.getName() + "`";
                check(page.lines().filter(l -> l.startsWith("| ") && l.contains(name)).count() == 1,
                    name + " doesn't stand once among the calls");
            }
        }
    }

    private static void tests(String page) throws IOException {
        try (var files = Files.list(TESTS)) {
            files.map(f -> f.getFileName().toString()).filter(f -> f.endsWith("Test.java")).forEach(f -> {
                String name = "`" + f.substring(0, f.length() - ".java".length()) + "`";
                check(page.contains(name), name + " isn't named");
            });
        }
    }

    public static void main(String[] args) throws IOException {
        String page = Files.readString(Path.of("README.md"));
        example(page);
        script(page);
        calls(page);
        tests(page);
        System.out.println(wrong == 0 ? "the page says what is" : wrong + " of the page are wrong");
        if (wrong != 0) {
            System.exit(1);
        }
    }
}
