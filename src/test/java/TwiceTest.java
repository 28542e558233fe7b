import java.util.NoSuchElementException;

/** Promise 11: twice. */
public final class TwiceTest {
    private static final Check CHECK = new Check("TwiceTest");

    public static void main(String[] args) {
        wrongSigns();
        distances();
        likeness();
        chains();
        CHECK.end();
    }

    private static void wrongSigns() {
        TextOrder page = Pages.lettered();
        page.sign('a', 0, 0, 5, 10);
        CHECK.dueThrow("twice(1)", NoSuchElementException.class, () -> page.twice(1));
        CHECK.dueThrow("twice(-1)", NoSuchElementException.class, () -> page.twice(-1));
        CHECK.due("twice(0)", page.twice(0), -1);
    }

    private static int second(long x, long y, long width, int size, boolean turned) {
        TextOrder page = Pages.lettered();
        page.sign('a', 100, 100, 8, 12);
        page.sign('a', 100 + x, 100 + y, width, size);
        page.turn(0, turned);
        page.turn(1, turned);
        return page.twice(1);
    }

    private static void distances() {
        CHECK.due("the same place", second(0, 0, 0, 1, false), 0);
        CHECK.due("a quarter of the width to the right", second(2, 0, 0, 1, false), 0);
        CHECK.due("a quarter of the width to the left", second(-2, 0, 0, 1, false), 0);
        CHECK.due("more to the right", second(3, 0, 100, 100, false), -1);
        CHECK.due("more to the left", second(-3, 0, 100, 100, false), -1);
        CHECK.due("a quarter of the size up", second(0, 3, 0, 1, false), 0);
        CHECK.due("a quarter of the size down", second(0, -3, 0, 1, false), 0);
        CHECK.due("more up", second(0, 4, 100, 100, false), -1);
        CHECK.due("more down", second(0, -4, 100, 100, false), -1);
        CHECK.due("both", second(2, -3, 0, 1, false), 0);
        CHECK.due("turned: a quarter of the size along x", second(3, 2, 0, 1, true), 0);
        CHECK.due("turned: more along x", second(4, 0, 100, 100, true), -1);
        CHECK.due("turned: more along y", second(0, 3, 100, 100, true), -1);
        TextOrder quarter = Pages.lettered();
        quarter.sign('a', 0, 0, 11, 15);
        quarter.sign('a', 3, 0, 11, 15);
        quarter.sign('a', 0, 4, 11, 15);
        quarter.sign('a', 2, 3, 11, 15);
        CHECK.due("a quarter is not cut off", Pages.doubles(quarter, 4), "-1,-1,-1,0");
        TextOrder none = Pages.lettered();
        none.sign('a', 0, 0, 0, 10);
        none.sign('a', 1, 0, 0, 10);
        none.sign('a', 0, 0, 0, 10);
        CHECK.due("without a width only the same u", Pages.doubles(none, 3), "-1,-1,0");
    }

    private static void likeness() {
        TextOrder page = new TextOrder();
        page.sign(1, 0, 0, 5, 10);
        page.sign(2, 0, 0, 5, 10);
        CHECK.due("both without letters", Pages.doubles(page, 2), "-1,0");
        page.map(1, 2, 65533, 0);
        CHECK.due("told as if it were not", Pages.doubles(page, 2), "-1,0");
        page.map(1, 2, 65533, 1);
        CHECK.due("a second letter", Pages.doubles(page, 2), "-1,-1");
        page.map(3, 1, 65533, 1);
        CHECK.due("the same two letters by other maps", Pages.doubles(page, 2), "-1,0");
        page.map(3, 1, 65533, 2);
        CHECK.due("other second letters", Pages.doubles(page, 2), "-1,-1");
        page.map(3, 1, 65533, 1);
        page.turn(1, true);
        CHECK.due("one is turned", Pages.doubles(page, 2), "-1,-1");
        page.turn(0, true);
        CHECK.due("both are turned", Pages.doubles(page, 2), "-1,0");
    }

    private static void chains() {
        TextOrder page = Pages.lettered();
        page.sign('a', 0, 0, 8, 10);
        page.sign('a', 2, 0, 8, 10);
        page.sign('a', 4, 0, 8, 10);
        page.sign('a', 3, 0, 8, 10);
        page.sign('a', 2, 0, 8, 10);
        CHECK.due("of one that is no double, the first", Pages.doubles(page, 5), "-1,0,-1,2,0");
        CHECK.due("doubles are passed", Pages.owners(page), "0,2");
        CHECK.due("lines", Pages.lines(page, 5), "0,-1,0,-1,-1");
        CHECK.due("blocks", Pages.blocks(page, 5), "0,-1,0,-1,-1");
        page.tag(1, 0);
        CHECK.due("a double's tag is nothing", Pages.owners(page), "0,2");
        page.turn(0, true);
        CHECK.due("it is a double no more", Pages.doubles(page, 5), "-1,-1,1,1,1");
        TextOrder wide = Pages.lettered();
        wide.sign('a', 0, 0, 4, 10);
        wide.sign('a', 2, 0, 100, 10);
        CHECK.due("the earlier one's width counts", Pages.doubles(wide, 2), "-1,-1");
    }
}
