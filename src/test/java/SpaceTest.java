import java.util.NoSuchElementException;

/** Promise 12: space. */
public final class SpaceTest {
    private static final Check CHECK = new Check("SpaceTest");

    public static void main(String[] args) {
        noSuchSign();
        shares();
        cuts();
        leastAndGreatestSizes();
        greatestWidths();
        withoutAWidth();
        nextOnes();
        gapOfTheSignItself();
        gone();
        CHECK.end();
    }

    private static void noSuchSign() {
        TextOrder page = Pages.lettered();
        CHECK.dueThrow("space(0) without signs", NoSuchElementException.class, () -> page.space(0));
        page.sign('a', 0, 0, 5, 10);
        for (int sign : new int[] {-1, 1, 200, Integer.MIN_VALUE, Integer.MAX_VALUE}) {
            CHECK.dueThrow("space(" + sign + ")", NoSuchElementException.class, () -> page.space(sign));
        }
        CHECK.due("space(0)", page.space(0), false);
    }

    private static boolean behind(long width, int size, long gap) {
        TextOrder page = Pages.lettered();
        page.sign('a', -width, 0, width, size);
        page.sign('b', gap, 0, 5, 10);
        CHECK.due("none behind the last", page.space(1), false);
        return page.space(0);
    }

    private static void shares() {
        CHECK.due("a quarter of the width", behind(8, 10, 2), true);
        CHECK.due("less", behind(8, 10, 1), false);
        CHECK.due("249 of 1000", behind(1000, 1000, 249), false);
        CHECK.due("250 of 1000", behind(1000, 1000, 250), true);
        CHECK.due("249.9 of 1000 is cut off", behind(10000, 1000, 2499), false);
        CHECK.due("no gap", behind(8, 10, 0), false);
        CHECK.due("a gap below 0", behind(8, 10, -4), false);
        CHECK.due("without a width", behind(0, 10, 7), false);
        CHECK.due("the least width", behind(1, 10, 1), true);
    }

    private static void cuts() {
        CHECK.due("a gap below three times the size", behind(8, 10, 29), true);
        CHECK.due("three times the size is a cut", behind(8, 10, 30), false);
        TextOrder page = Pages.lettered();
        page.sign('a', 0, 0, 8, 10);
        page.sign('b', 37, 0, 5, 1);
        page.sign('c', 45, 0, 5, 10);
        page.sign('d', 50, 0, 5, 10);
        page.sign('e', 57, 0, 5, 10);
        CHECK.due("the size of the sign before the gap counts", Pages.spaces(page, 5), "10010");
    }

    /** "Where the gap is three times its size or more, the line is CUT there": then there is no space. */
    private static void leastAndGreatestSizes() {
        CHECK.due("size 1, a gap of 2", behind(8, 1, 2), true);
        CHECK.due("size 1, a gap of 3", behind(8, 1, 3), false);
        CHECK.due("size 1000, a gap of 2999", behind(8, 1000, 2999), true);
        CHECK.due("size 1000, a gap of 3000", behind(8, 1000, 3000), false);
        CHECK.due("size 1, a gap of 1000000", behind(8, 1, 1000000 - 8), false);
        TextOrder page = Pages.lettered();
        page.sign('a', 0, 0, 1000, 1);
        page.sign('b', 1002, 0, 1000, 1);
        page.sign('c', 2005, 0, 5, 1);
        CHECK.due("no spaces by shares", Pages.spaces(page, 3), "000");
        CHECK.due("2 is no cut, 3 is one", Pages.text(page), "ab|c");
    }

    /** "SHARE(gap, width) is 250 or more", of the widest signs behind which a gap is not yet a cut. */
    private static void greatestWidths() {
        CHECK.due("2999 of 11996", behind(11996, 1000, 2999), true);
        CHECK.due("2999 of 11997", behind(11997, 1000, 2999), false);
        CHECK.due("2999 of 1000000", behind(1000000, 1000, 2999), false);
        CHECK.due("a gap below 0 of 1000000", behind(1000000, 1000, -1000000), false);
        CHECK.due("1 of 4", behind(4, 10, 1), true);
        CHECK.due("1 of 5", behind(5, 10, 1), false);
        CHECK.due("2 of 9", behind(9, 10, 2), false);
    }

    /** "Without a width none", but a cut where the gap is wide enough for one. */
    private static void withoutAWidth() {
        CHECK.due("a gap of 1", behind(0, 10, 1), false);
        CHECK.due("a gap of 29", behind(0, 10, 29), false);
        CHECK.due("a gap of 30", behind(0, 10, 30), false);
        TextOrder page = Pages.lettered();
        page.sign('a', 0, 0, 0, 10);
        page.sign('b', 29, 0, 0, 10);
        page.sign('c', 59, 0, 0, 10);
        CHECK.due("29 is no cut, 30 is one", Pages.text(page), "ab|c");
    }

    private static void nextOnes() {
        TextOrder page = Pages.lettered();
        page.sign('a', 0, 0, 5, 10);
        page.sign('b', 10, -20, 5, 10);
        page.sign('a', 0, 1, 5, 10);
        page.sign('c', 10, 0, 5, 10);
        page.turn(3, true);
        CHECK.due("only in its own line, and not behind a double", Pages.spaces(page, 4), "0000");
        page.turn(3, false);
        CHECK.due("the next is in the line", Pages.spaces(page, 4), "1000");
        page.tag(3, 0);
        CHECK.due("a tag changes nothing", Pages.spaces(page, 4), "1000");
        TextOrder turned = Pages.lettered();
        turned.sign('a', 0, 0, 5, 10);
        turned.sign('b', 0, 10, 5, 10);
        turned.turn(0, true);
        turned.turn(1, true);
        CHECK.due("in a turned line", Pages.spaces(turned, 2), "10");
        CHECK.due("its text", Pages.text(turned), "a_b");
        TextOrder between = Pages.lettered();
        between.sign('a', 0, 0, 8, 10);
        between.sign('b', 16, 0, 8, 10);
        between.sign('a', 2, 0, 14, 10);
        CHECK.due("a double is not the next one", Pages.spaces(between, 3), "100");
        between.map(0, 'b', 'a', 0);
        between.sign('b', 15, 0, 8, 10);
        CHECK.due("nor is a double of the next one", Pages.spaces(between, 4), "1000");
    }

    /** "How much the next one's u in its line is more than its own u and width", whatever else lies there. */
    private static void gapOfTheSignItself() {
        TextOrder page = Pages.lettered();
        page.sign('a', 0, 0, 90, 10);
        page.sign('b', 10, 0, 5, 10);
        page.sign('c', 20, 0, 5, 10);
        page.sign('d', 55, 0, 5, 10);
        CHECK.due("a broad sign before hides no space", Pages.spaces(page, 4), "0100");
        CHECK.due("nor a cut", Pages.text(page), "ab_c_d");
        CHECK.due("though the gap parts no block", Pages.blocks(page, 4), "0,0,0,0");
    }

    /** Spaces that there were, and are no more when the next sign is gone, farther, nearer, or is a double. */
    private static void gone() {
        TextOrder page = Pages.lettered();
        page.sign('a', 0, 0, 5, 10);
        page.sign('b', 10, 0, 5, 10);
        CHECK.due("a space", page.space(0), true);
        page.turn(1, true);
        CHECK.due("the next is turned", page.space(0), false);
        page.turn(1, false);
        CHECK.due("and back", page.space(0), true);
        page.sign('c', 5, 0, 5, 10);
        CHECK.due("one comes between", Pages.spaces(page, 3), "000");
        page.turn(2, true);
        CHECK.due("and is turned", page.space(0), true);
        page.turn(0, true);
        CHECK.due("the sign itself is turned, alone in its line", Pages.spaces(page, 3), "000");
        TextOrder far = Pages.lettered();
        far.sign('a', 0, 0, 5, 10);
        far.sign('b', 10, 0, 5, 10);
        far.sign('c', 35, 0, 5, 10);
        CHECK.due("two spaces", Pages.spaces(far, 3), "110");
        far.turn(1, true);
        CHECK.due("a cut where a space was", Pages.spaces(far, 3), "000");
        TextOrder twice = Pages.lettered();
        twice.sign('b', 0, 0, 8, 10);
        twice.sign('a', 2, 0, 8, 10);
        twice.sign('c', 20, 0, 8, 10);
        CHECK.due("a space behind the second", Pages.spaces(twice, 3), "010");
        twice.map(0, 'a', 'b', 0);
        CHECK.due("it is a double now", Pages.spaces(twice, 3), "100");
        twice.map(0, 'a', 'a', 0);
        CHECK.due("and back", Pages.spaces(twice, 3), "010");
    }
}
