import java.util.NoSuchElementException;

/** Promise 3: turn. */
public final class TurnTest {
    private static final Check CHECK = new Check("TurnTest");

    public static void main(String[] args) {
        answersAndLines();
        noSuchSign();
        lastSign();
        farthestPlaces();
        asMuchTurned();
        CHECK.end();
    }

    private static void answersAndLines() {
        TextOrder page = Pages.lettered();
        page.sign('a', 0, 0, 5, 10);
        page.sign('b', 0, 5, 5, 10);
        page.sign('c', 0, 10, 5, 10);
        CHECK.due("lines before", Pages.lines(page, 3), "1,0,0");
        CHECK.due("turn(0, false)", page.turn(0, false), 0);
        CHECK.due("turn(0, true)", page.turn(0, true), 0);
        CHECK.due("turn(0, true) again", page.turn(0, true), 1);
        CHECK.due("turn(1, true)", page.turn(1, true), 0);
        CHECK.due("lines with two turned", Pages.lines(page, 3), "1,1,0");
        CHECK.due("blocks with two turned", Pages.blocks(page, 3), "1,1,0");
        CHECK.due("text with two turned", Pages.text(page), "c|ab");
        CHECK.due("turn(2, true)", page.turn(2, true), 0);
        CHECK.due("a turned line goes up", Pages.text(page), "abc");
        CHECK.due("lines with all turned", Pages.lines(page, 3), "0,0,0");
        page.sign('d', 20, 0, 5, 10);
        page.turn(3, true);
        CHECK.due("a turned line is above what is right of it", Pages.lines(page, 4), "0,0,0,1");
        CHECK.due("turn(2, false)", page.turn(2, false), 1);
        CHECK.due("turn(2, false) again", page.turn(2, false), 0);
        CHECK.due("turned lines come last", Pages.lines(page, 4), "1,1,0,2");
    }

    private static void noSuchSign() {
        TextOrder page = Pages.lettered();
        CHECK.dueThrow("turn(0, true) without signs", NoSuchElementException.class, () -> page.turn(0, true));
        CHECK.due("length() behind it", page.length(), 0);
        page.sign('a', 0, 0, 5, 10);
        page.sign('b', 0, 5, 5, 10);
        for (int sign : new int[] {-1, 2, 199, 200, 256, Integer.MIN_VALUE, Integer.MAX_VALUE}) {
            CHECK.dueThrow("turn(" + sign + ", true)", NoSuchElementException.class, () -> page.turn(sign, true));
            CHECK.dueThrow("turn(" + sign + ", false)", NoSuchElementException.class, () -> page.turn(sign, false));
        }
        CHECK.due("text behind calls that throw", Pages.text(page), "ab");
        CHECK.due("the sign that was not there is not turned", page.sign('c', 0, 10, 5, 10), 2);
        CHECK.due("turn(2, false)", page.turn(2, false), 0);
        CHECK.due("turn(1, false)", page.turn(1, false), 0);
    }

    private static void lastSign() {
        TextOrder page = new TextOrder();
        for (int i = 0; i < 200; i++) {
            page.sign(7, i * 5L, 0, 5, 10);
        }
        CHECK.due("turn(199, true) of 200", page.turn(199, true), 0);
        CHECK.dueThrow("turn(200, true) of 200", NoSuchElementException.class, () -> page.turn(200, true));
        CHECK.due("line(199)", page.line(199), 1);
        CHECK.due("turn(199, false)", page.turn(199, false), 1);
        CHECK.due("line(199) again", page.line(199), 0);
    }

    /** "Of a turned sign (y, -x)", at the ends of the page. */
    private static void farthestPlaces() {
        TextOrder page = Pages.lettered();
        page.sign('a', 1000000, 0, 5, 10);
        page.sign('b', -1000000, 0, 5, 10);
        page.sign('c', 0, 1000000, 5, 10);
        page.sign('d', 0, -1000000, 5, 10);
        for (int i = 0; i < 4; i++) {
            page.turn(i, true);
        }
        CHECK.due("lines", Pages.lines(page, 4), "2,0,1,1");
        CHECK.due("blocks", Pages.blocks(page, 4), "2,1,3,0");
        CHECK.due("text", Pages.text(page), "d|b|a|c");
    }

    /** A double is as much turned as the one that it is a double of. */
    private static void asMuchTurned() {
        TextOrder page = Pages.lettered();
        page.sign('a', 0, 0, 5, 10);
        page.sign('a', 0, 0, 5, 10);
        CHECK.due("turn(1, true) of a double", page.turn(1, true), 0);
        CHECK.due("it is none any more", Pages.doubles(page, 2), "-1,-1");
        CHECK.due("turn(0, true)", page.turn(0, true), 0);
        CHECK.due("both turned", Pages.doubles(page, 2), "-1,0");
        CHECK.due("what a double was is told", page.turn(1, false), 1);
    }
}
