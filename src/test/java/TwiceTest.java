import java.util.NoSuchElementException;

/** Promise 11: twice. */
public final class TwiceTest {
    private static final Check CHECK = new Check("TwiceTest");

    public static void main(String[] args) {
        noSuchSign();
        distances();
        leastAndGreatestDistances();
        likeness();
        chains();
        firstOfSeveral();
        passedInAllThatFollows();
        mostDoubles();
        CHECK.end();
    }

    private static void noSuchSign() {
        TextOrder page = Pages.lettered();
        CHECK.dueThrow("twice(0) without signs", NoSuchElementException.class, () -> page.twice(0));
        page.sign('a', 0, 0, 5, 10);
        for (int sign : new int[] {-1, 1, 200, Integer.MIN_VALUE, Integer.MAX_VALUE}) {
            CHECK.dueThrow("twice(" + sign + ")", NoSuchElementException.class, () -> page.twice(sign));
        }
        CHECK.due("twice(0)", page.twice(0), -1);
    }

    private static int second(long x, long y, long width, int size, boolean turned) {
        TextOrder page = Pages.lettered();
        page.sign('a', 100, 100, 8, 12);
        page.sign('a', 100 + x, 100 + y, width, size);
        page.turn(0, turned);
        page.turn(1, turned);
        return page.twice(1);
    }

    private static void distances() {
        CHECK.due("the same place", second(0, 0, 0, 1, false), 0);
        CHECK.due("a quarter of the width to the right", second(2, 0, 0, 1, false), 0);
        CHECK.due("a quarter of the width to the left", second(-2, 0, 0, 1, false), 0);
        CHECK.due("more to the right", second(3, 0, 100, 100, false), -1);
        CHECK.due("more to the left", second(-3, 0, 100, 100, false), -1);
        CHECK.due("a quarter of the size up", second(0, 3, 0, 1, false), 0);
        CHECK.due("a quarter of the size down", second(0, -3, 0, 1, false), 0);
        CHECK.due("more up", second(0, 4, 100, 100, false), -1);
        CHECK.due("more down", second(0, -4, 100, 100, false), -1);
        CHECK.due("both", second(2, -3, 0, 1, false), 0);
        CHECK.due("turned: a quarter of the size along x", second(3, 2, 0, 1, true), 0);
        CHECK.due("turned: more along x", second(4, 0, 100, 100, true), -1);
        CHECK.due("turned: more along y", second(0, 3, 100, 100, true), -1);
        TextOrder quarter = Pages.lettered();
        quarter.sign('a', 0, 0, 11, 15);
        quarter.sign('a', 3, 0, 11, 15);
        quarter.sign('a', 0, 4, 11, 15);
        quarter.sign('a', 2, 3, 11, 15);
        CHECK.due("a quarter is not cut off", Pages.doubles(quarter, 4), "-1,-1,-1,0");
        TextOrder none = Pages.lettered();
        none.sign('a', 0, 0, 0, 10);
        none.sign('a', 1, 0, 0, 10);
        none.sign('a', 0, 0, 0, 10);
        CHECK.due("without a width only the same u", Pages.doubles(none, 3), "-1,-1,0");
    }

    private static void apart(long width, int size, long u, long v, int want) {
        TextOrder page = Pages.lettered();
        page.sign('a', 0, 0, width, size);
        page.sign('a', u, v, 5, 10);
        page.sign('b', 0, 0, width, size);
        page.sign('b', -u, -v, 5, 10);
        String call = "width " + width + ", size " + size + ", apart (" + u + ", " + v + ")";
        CHECK.due(call, page.twice(1), want);
        CHECK.due(call + " to the other side", page.twice(3), want < 0 ? -1 : 2);
    }

    /** "Four times how far its u is .. is that one's width at most", and of its v that one's size. */
    private static void leastAndGreatestDistances() {
        apart(0, 1, 0, 0, 0);
        apart(0, 1, 1, 0, -1);
        apart(3, 1, 1, 0, -1);
        apart(4, 1, 1, 0, 0);
        apart(0, 1, 0, 1, -1);
        apart(0, 3, 0, 1, -1);
        apart(0, 4, 0, 1, 0);
        apart(1000000, 1, 250000, 0, 0);
        apart(1000000, 1, 250001, 0, -1);
        apart(999999, 1, 250000, 0, -1);
        apart(0, 1000, 0, 250, 0);
        apart(0, 1000, 0, 251, -1);
        apart(0, 999, 0, 250, -1);
        apart(1000000, 1000, 250000, 250, 0);
        apart(1000000, 1000, 1000000, 1000000, -1);
    }

    private static void likeness() {
        TextOrder page = new TextOrder();
        page.sign(1, 0, 0, 5, 10);
        page.sign(2, 0, 0, 5, 10);
        CHECK.due("both without letters", Pages.doubles(page, 2), "-1,0");
        page.map(1, 2, 65533, 0);
        CHECK.due("told as if it were not", Pages.doubles(page, 2), "-1,0");
        page.map(1, 2, 65533, 1);
        CHECK.due("a second letter", Pages.doubles(page, 2), "-1,-1");
        page.map(3, 1, 65533, 1);
        CHECK.due("the same two letters by other maps", Pages.doubles(page, 2), "-1,0");
        page.map(3, 1, 65533, 2);
        CHECK.due("other second letters", Pages.doubles(page, 2), "-1,-1");
        page.map(3, 1, 65533, 1);
        page.turn(1, true);
        CHECK.due("one is turned", Pages.doubles(page, 2), "-1,-1");
        page.turn(0, true);
        CHECK.due("both are turned", Pages.doubles(page, 2), "-1,0");
    }

    private static void chains() {
        TextOrder page = Pages.lettered();
        page.sign('a', 0, 0, 8, 10);
        page.sign('a', 2, 0, 8, 10);
        page.sign('a', 4, 0, 8, 10);
        page.sign('a', 3, 0, 8, 10);
        page.sign('a', 2, 0, 8, 10);
        CHECK.due("of one that is no double, the first", Pages.doubles(page, 5), "-1,0,-1,2,0");
        CHECK.due("doubles are passed", Pages.owners(page), "0,2");
        CHECK.due("lines", Pages.lines(page, 5), "0,-1,0,-1,-1");
        CHECK.due("blocks", Pages.blocks(page, 5), "0,-1,0,-1,-1");
        page.tag(1, 0);
        CHECK.due("a double's tag is nothing", Pages.owners(page), "0,2");
        page.turn(0, true);
        CHECK.due("it is a double no more", Pages.doubles(page, 5), "-1,-1,1,1,1");
        TextOrder wide = Pages.lettered();
        wide.sign('a', 0, 0, 4, 10);
        wide.sign('a', 2, 0, 100, 10);
        CHECK.due("the earlier one's width counts", Pages.doubles(wide, 2), "-1,-1");
    }

    /** "It is a double of the first such one": of the first in number, not of the nearest. */
    private static void firstOfSeveral() {
        TextOrder page = Pages.lettered();
        page.sign('a', 0, 0, 8, 10);
        page.sign('a', 4, 0, 8, 10);
        page.sign('a', 2, 0, 8, 10);
        page.sign('a', 3, 0, 8, 10);
        CHECK.due("as near to both, nearer to the second", Pages.doubles(page, 4), "-1,-1,0,1");
        TextOrder wide = Pages.lettered();
        wide.sign('a', 0, 0, 40, 10);
        wide.sign('a', 11, 0, 40, 10);
        wide.sign('a', 10, 0, 40, 10);
        wide.sign('a', 11, 0, 40, 10);
        CHECK.due("near to both", Pages.doubles(wide, 4), "-1,-1,0,1");
        TextOrder later = Pages.lettered();
        later.sign('a', 2, 0, 4, 10);
        later.sign('a', 0, 0, 8, 10);
        CHECK.due("never of a later one", Pages.doubles(later, 2), "-1,-1");
    }

    /** "And is passed in all that follows": doubles, however broad and great, change nothing for the others. */
    private static void passedInAllThatFollows() {
        TextOrder plain = Pages.lettered();
        TextOrder page = Pages.lettered();
        for (TextOrder each : new TextOrder[] {plain, page}) {
            Pages.row(each, "ab", 0, 0);
            Pages.row(each, "cd", 12, 0);
            Pages.row(each, "e-", 0, -12);
            Pages.row(each, "f", 0, -24);
            Pages.row(each, "g", 0, -44);
        }
        page.sign('a', -1, 2, 900, 1000);
        page.sign('d', 18, -2, 900, 1000);
        page.sign('-', 6, -10, 900, 1000);
        page.sign('g', 1, -46, 900, 1000);
        page.tag(8, 0);
        page.tag(11, 0);
        CHECK.due("all that is told of the others", Pages.told(page, 8), Pages.told(plain, 8));
        CHECK.due("text", Pages.text(page), "ab_cd_ef|g");
        CHECK.due("the doubles", page.twice(8) + "," + page.twice(9) + "," + page.twice(10) + "," + page.twice(11),
                "0,3,5,7");
        CHECK.due("their lines and blocks", page.line(8) + page.block(8) + page.line(11) + page.block(11), -4);
        CHECK.due("spaces behind them", page.space(8) || page.space(9) || page.space(10) || page.space(11), false);
        CHECK.due("letters at their places", page.area(-1, 2, -1, 2) + page.area(18, -2, 18, -2), 0);
    }

    private static void mostDoubles() {
        TextOrder page = Pages.lettered();
        for (int i = 0; i < 200; i++) {
            page.sign('a' + i % 2, 0, 0, 5, 10);
        }
        CHECK.due("the last of 200", page.twice(199), 1);
        CHECK.due("the one before", page.twice(198), 0);
        CHECK.dueThrow("twice(200)", NoSuchElementException.class, () -> page.twice(200));
        CHECK.due("text", Pages.text(page), "ab");
        page.map(0, 'b', 'a', 0);
        CHECK.due("all but one", page.twice(199), 0);
        CHECK.due("text of one letter", Pages.text(page), "a");
    }
}
