/** Promise 2: sign. */
public final class SignTest {
    private static final Check CHECK = new Check("SignTest");

    public static void main(String[] args) {
        numbersAndEdges();
        lastThatAreTaken();
        greatestWidthAndSizeAreKept();
        firstThatAreRefused();
        farThatAreRefused();
        mostSigns();
        doublesAreSigns();
        CHECK.end();
    }

    private static void numbersAndEdges() {
        TextOrder page = new TextOrder();
        CHECK.due("sign, all least", page.sign(0, -1000000, -1000000, 0, 1), 0);
        CHECK.due("sign, all most", page.sign(255, 1000000, 1000000, 1000000, 1000), 1);
        CHECK.due("line of the upper one", page.line(1), 0);
        CHECK.due("line of the lower one", page.line(0), 1);
        CHECK.due("owners", Pages.owners(page), "0,-1,1");
    }

    private static void taken(int code, long x, long y, long width, int size) {
        String call = name(code, x, y, width, size);
        TextOrder page = new TextOrder();
        page.map(0, code, 'k', 0);
        CHECK.due(call, page.sign(code, x, y, width, size), 0);
        CHECK.due("the letter of its code", page.letter(0), 'k');
        CHECK.due("its place", page.area(x, y, x, y), 1);
        CHECK.due("the sign behind " + call, page.sign(code, 500, 500, 5, 10), 1);
    }

    /** "Code is not 0 .. 255, x or y not -1000000 .. 1000000, the width not 0 .. 1000000, the size not 1 .. 1000". */
    private static void lastThatAreTaken() {
        taken(0, 0, 0, 5, 10);
        taken(255, 0, 0, 5, 10);
        taken(7, -1000000, 0, 5, 10);
        taken(7, 1000000, 0, 5, 10);
        taken(7, 0, -1000000, 5, 10);
        taken(7, 0, 1000000, 5, 10);
        taken(7, 0, 0, 0, 10);
        taken(7, 0, 0, 1000000, 10);
        taken(7, 0, 0, 5, 1);
        taken(7, 0, 0, 5, 1000);
    }

    private static void greatestWidthAndSizeAreKept() {
        TextOrder page = new TextOrder();
        page.sign(7, -1000000, 0, 1000000, 1000);
        page.sign(7, -750000, 250, 0, 1);
        page.sign(7, -749999, 0, 0, 1);
        page.sign(7, -1000000, 251, 0, 1);
        CHECK.due("a quarter of them is a double's place", Pages.doubles(page, 4), "-1,0,-1,-1");
    }

    private static String name(int code, long x, long y, long width, int size) {
        return "sign(" + code + ", " + x + ", " + y + ", " + width + ", " + size + ")";
    }

    private static void refused(int code, long x, long y, long width, int size) {
        String call = name(code, x, y, width, size);
        TextOrder page = new TextOrder();
        page.sign(7, 100, 200, 5, 10);
        CHECK.dueThrow(call, IllegalArgumentException.class, () -> page.sign(code, x, y, width, size));
        CHECK.due("length() behind " + call, page.length(), 1);
        CHECK.due("the letters of all behind " + call,
                page.area(Long.MIN_VALUE, Long.MIN_VALUE, Long.MAX_VALUE, Long.MAX_VALUE), 1);
        CHECK.due("the next sign behind " + call, page.sign(7, 0, 0, 5, 10), 1);
    }

    private static void firstThatAreRefused() {
        refused(-1, 0, 0, 5, 10);
        refused(256, 0, 0, 5, 10);
        refused(0, -1000001, 0, 5, 10);
        refused(0, 1000001, 0, 5, 10);
        refused(0, 0, -1000001, 5, 10);
        refused(0, 0, 1000001, 5, 10);
        refused(0, 0, 0, -1, 10);
        refused(0, 0, 0, 1000001, 10);
        refused(0, 0, 0, 5, 0);
        refused(0, 0, 0, 5, 1001);
    }

    /** Numbers that would be right if they were cut to fewer bits, or without their minus. */
    private static void farThatAreRefused() {
        refused(Integer.MIN_VALUE, 0, 0, 5, 10);
        refused(Integer.MAX_VALUE, 0, 0, 5, 10);
        refused(256 + 65, 0, 0, 5, 10);
        refused(0, Long.MIN_VALUE, 0, 5, 10);
        refused(0, Long.MAX_VALUE, 0, 5, 10);
        refused(0, 1L << 32, 0, 5, 10);
        refused(0, 0, Long.MIN_VALUE, 5, 10);
        refused(0, 0, Long.MAX_VALUE, 5, 10);
        refused(0, 0, -(1L << 32), 5, 10);
        refused(0, 0, 0, Long.MIN_VALUE, 10);
        refused(0, 0, 0, Long.MAX_VALUE, 10);
        refused(0, 0, 0, 1L << 32, 10);
        refused(0, 0, 0, 5, -1);
        refused(0, 0, 0, 5, Integer.MIN_VALUE);
        refused(0, 0, 0, 5, Integer.MAX_VALUE);
        refused(0, 0, 0, 5, 65536 + 10);
    }

    /** "UnsupportedOperationException when there are 200"; of a wrong sign IllegalArgumentException comes first. */
    private static void mostSigns() {
        TextOrder page = Pages.lettered();
        for (int i = 0; i < 200; i++) {
            CHECK.due("sign " + i, page.sign('a' + i % 26, i * 5L, 0, 5, 10), i);
        }
        CHECK.dueThrow("sign 200", UnsupportedOperationException.class, () -> page.sign('a', 0, 0, 5, 10));
        CHECK.dueThrow("sign 200 again", UnsupportedOperationException.class, () -> page.sign('z', 0, 99, 0, 1));
        for (int[] wrong : new int[][] {{256, 0, 0, 5, 10}, {0, 1000001, 0, 5, 10}, {0, 0, -1000001, 5, 10},
            {0, 0, 0, -1, 10}, {0, 0, 0, 5, 0}}) {
            CHECK.dueThrow("a wrong sign 200", IllegalArgumentException.class,
                    () -> page.sign(wrong[0], wrong[1], wrong[2], wrong[3], wrong[4]));
        }
        CHECK.due("length() of 200 signs", page.length(), 200);
        CHECK.due("from(199)", page.from(199), 199);
        CHECK.due("letter(199)", page.letter(199), 'a' + 199 % 26);
        CHECK.due("line(199)", page.line(199), 0);
        CHECK.due("turn(199, false)", page.turn(199, false), 0);
        CHECK.due("tag(199, -1)", page.tag(199, -1), -1);
    }

    /** 200 at most: those that are there twice, and turned ones, have numbers like all others. */
    private static void doublesAreSigns() {
        TextOrder page = new TextOrder();
        for (int i = 0; i < 200; i++) {
            CHECK.due("sign " + i + " at one place", page.sign(7, 0, 0, 5, 10), i);
        }
        CHECK.dueThrow("sign 200 at one place", UnsupportedOperationException.class,
                () -> page.sign(7, 0, 0, 5, 10));
        CHECK.due("length() of 200 at one place", page.length(), 1);
        CHECK.due("twice(199)", page.twice(199), 0);
        CHECK.due("line(199)", page.line(199), -1);
        page.turn(199, true);
        CHECK.due("length() with one turned", page.length(), 3);
        CHECK.due("twice(199) of the turned one", page.twice(199), -1);
    }
}
