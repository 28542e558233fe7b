import java.util.NoSuchElementException;

/** Promise 12: space. */
public final class SpaceTest {
    private static final Check CHECK = new Check("SpaceTest");

    public static void main(String[] args) {
        wrongSigns();
        shares();
        cuts();
        nextOnes();
        CHECK.end();
    }

    private static void wrongSigns() {
        TextOrder page = Pages.lettered();
        page.sign('a', 0, 0, 5, 10);
        CHECK.dueThrow("space(1)", NoSuchElementException.class, () -> page.space(1));
        CHECK.dueThrow("space(-1)", NoSuchElementException.class, () -> page.space(-1));
        CHECK.due("space(0)", page.space(0), false);
    }

    private static boolean behind(long width, int size, long gap) {
        TextOrder page = Pages.lettered();
        page.sign('a', 0, 0, width, size);
        page.sign('b', width + gap, 0, 5, 10);
        CHECK.due("none behind the last", page.space(1), false);
        return page.space(0);
    }

    private static void shares() {
        CHECK.due("a quarter of the width", behind(8, 10, 2), true);
        CHECK.due("less", behind(8, 10, 1), false);
        CHECK.due("249 of 1000", behind(1000, 1000, 249), false);
        CHECK.due("250 of 1000", behind(1000, 1000, 250), true);
        CHECK.due("249.9 of 1000 is cut off", behind(10000, 1000, 2499), false);
        CHECK.due("no gap", behind(8, 10, 0), false);
        CHECK.due("a gap below 0", behind(8, 10, -4), false);
        CHECK.due("without a width", behind(0, 10, 7), false);
        CHECK.due("the least width", behind(1, 10, 1), true);
    }

    private static void cuts() {
        CHECK.due("a gap below three times the size", behind(8, 10, 29), true);
        CHECK.due("three times the size is a cut", behind(8, 10, 30), false);
        TextOrder page = Pages.lettered();
        page.sign('a', 0, 0, 8, 10);
        page.sign('b', 37, 0, 5, 1);
        page.sign('c', 45, 0, 5, 10);
        page.sign('d', 50, 0, 5, 10);
        page.sign('e', 57, 0, 5, 10);
        CHECK.due("the size of the sign before the gap counts", Pages.spaces(page, 5), "10010");
    }

    private static void nextOnes() {
        TextOrder page = Pages.lettered();
        page.sign('a', 0, 0, 5, 10);
        page.sign('b', 10, -20, 5, 10);
        page.sign('a', 0, 1, 5, 10);
        page.sign('c', 10, 0, 5, 10);
        page.turn(3, true);
        CHECK.due("only in its own line, and not behind a double", Pages.spaces(page, 4), "0000");
        page.turn(3, false);
        CHECK.due("the next is in the line", Pages.spaces(page, 4), "1000");
        page.tag(3, 0);
        CHECK.due("a tag changes nothing", Pages.spaces(page, 4), "1000");
        TextOrder turned = Pages.lettered();
        turned.sign('a', 0, 0, 5, 10);
        turned.sign('b', 0, 10, 5, 10);
        turned.turn(0, true);
        turned.turn(1, true);
        CHECK.due("in a turned line", Pages.spaces(turned, 2), "10");
        CHECK.due("its text", Pages.text(turned), "a_b");
    }
}
