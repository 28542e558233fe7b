import java.util.NoSuchElementException;

/** Promise 9: line. */
public final class LineTest {
    private static final Check CHECK = new Check("LineTest");

    public static void main(String[] args) {
        noSuchSign();
        halfOfTheSize();
        leastAndGreatestSizes();
        heads();
        orderInLine();
        doublesHaveNone();
        farthestLines();
        mostLines();
        turnedLines();
        CHECK.end();
    }

    private static void noSuchSign() {
        TextOrder page = Pages.lettered();
        CHECK.dueThrow("line(0) without signs", NoSuchElementException.class, () -> page.line(0));
        page.sign('a', 0, 0, 5, 10);
        for (int sign : new int[] {-1, 1, 200, Integer.MIN_VALUE, Integer.MAX_VALUE}) {
            CHECK.dueThrow("line(" + sign + ")", NoSuchElementException.class, () -> page.line(sign));
        }
        CHECK.due("line(0)", page.line(0), 0);
    }

    private static void halfOfTheSize() {
        TextOrder page = Pages.lettered();
        page.sign('a', 0, 0, 5, 10);
        page.sign('b', 5, -5, 5, 10);
        page.sign('c', 10, -6, 5, 10);
        page.sign('d', 15, -11, 5, 10);
        CHECK.due("an even size", Pages.lines(page, 4), "0,0,1,1");
        TextOrder odd = Pages.lettered();
        odd.sign('a', 0, 0, 5, 11);
        odd.sign('b', 5, -5, 5, 90);
        odd.sign('c', 10, -6, 5, 90);
        CHECK.due("an odd size, of the upper one", Pages.lines(odd, 3), "0,0,1");
    }

    private static void below(int size, long less, String want) {
        TextOrder page = Pages.lettered();
        page.sign('a', 0, 0, 5, size);
        page.sign('b', 5, -less, 5, 1000);
        CHECK.due("less by " + less + " than one of size " + size, Pages.lines(page, 2), want);
    }

    /** "Whose v is less by half the size of that one at most". */
    private static void leastAndGreatestSizes() {
        below(1, 0, "0,0");
        below(1, 1, "0,1");
        below(2, 1, "0,0");
        below(2, 2, "0,1");
        below(3, 1, "0,0");
        below(3, 2, "0,1");
        below(999, 499, "0,0");
        below(999, 500, "0,1");
        below(1000, 500, "0,0");
        below(1000, 501, "0,1");
    }

    /** "The greatest v (of these the least u, of these the least number)". */
    private static void heads() {
        TextOrder page = Pages.lettered();
        page.sign('a', 9, 0, 1, 100);
        page.sign('b', 3, 0, 1, 10);
        page.sign('c', 3, 0, 1, 50);
        page.sign('d', 0, -6, 1, 10);
        CHECK.due("the left one is the head, of these the first", Pages.lines(page, 4), "0,0,0,1");
        page.sign('e', 2, 0, 1, 12);
        CHECK.due("another is more left", Pages.lines(page, 5), "0,0,0,0,0");
        page.sign('f', 50, 2, 1, 4);
        CHECK.due("another is higher", Pages.lines(page, 6), "0,0,0,1,0,0");
    }

    private static void orderInLine() {
        TextOrder page = Pages.lettered();
        page.sign('c', 10, 0, 5, 10);
        page.sign('a', 0, -3, 5, 10);
        page.sign('d', 10, 2, 5, 10);
        page.sign('b', 5, 1, 5, 10);
        CHECK.due("by u, then by number", Pages.text(page), "abcd");
        CHECK.due("one line", Pages.lines(page, 4), "0,0,0,0");
    }

    private static void doublesHaveNone() {
        TextOrder page = Pages.lettered();
        page.sign('a', 0, 0, 5, 10);
        page.sign('a', 0, 2, 5, 10);
        page.sign('b', 0, -6, 5, 10);
        CHECK.due("a double has no line and heads none", Pages.lines(page, 3), "0,-1,1");
    }

    private static void farthestLines() {
        TextOrder page = Pages.lettered();
        page.sign('a', 1000000, -1000000, 5, 10);
        page.sign('b', -1000000, 1000000, 5, 10);
        page.sign('c', -1000000, -1000000, 5, 10);
        page.sign('d', 1000000, 1000000, 5, 10);
        CHECK.due("at the ends of the page", Pages.lines(page, 4), "1,0,1,0");
        CHECK.due("columns first", Pages.text(page), "b|c|d|a");
    }

    private static void mostLines() {
        TextOrder down = new TextOrder();
        TextOrder up = new TextOrder();
        TextOrder one = new TextOrder();
        for (int i = 0; i < 200; i++) {
            down.sign(7, 0, -i, 0, 1);
            up.sign(7, 0, i, 0, 1);
            one.sign(7, i * 5L, i, 5, 398);
        }
        for (int i = 0; i < 200; i++) {
            CHECK.due("line(" + i + ") of 200 downward", down.line(i), i);
            CHECK.due("line(" + i + ") of 200 upward", up.line(i), 199 - i);
        }
        CHECK.due("200 in one line: the first", one.line(0), 0);
        CHECK.due("and the last", one.line(199), 0);
        CHECK.dueThrow("line(200)", NoSuchElementException.class, () -> down.line(200));
    }

    /** "First of signs that are not turned, then of turned ones", also where there are none of the former. */
    private static void turnedLines() {
        TextOrder page = Pages.lettered();
        page.sign('a', 0, 0, 5, 10);
        page.turn(0, true);
        CHECK.due("turned ones alone", page.line(0), 0);
        page.sign('b', 0, -500, 5, 10);
        CHECK.due("behind a lower one that is not turned", Pages.lines(page, 2), "1,0");
        page.sign('c', 5, 0, 5, 10);
        page.sign('d', 6, 0, 5, 10);
        page.turn(2, true);
        page.turn(3, true);
        CHECK.due("half the size along x, and more", Pages.lines(page, 4), "1,0,1,2");
    }
}
