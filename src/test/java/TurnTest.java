import java.util.NoSuchElementException;

/** Promise 3: turn. */
public final class TurnTest {
    public static void main(String[] args) {
        Check check = new Check("TurnTest");
        TextOrder page = Pages.lettered();
        check.dueThrow("turn(0, true) without signs", NoSuchElementException.class, () -> page.turn(0, true));
        page.sign('a', 0, 0, 5, 10);
        page.sign('b', 0, 5, 5, 10);
        page.sign('c', 0, 10, 5, 10);
        check.dueThrow("turn(3, true)", NoSuchElementException.class, () -> page.turn(3, true));
        check.dueThrow("turn(-1, false)", NoSuchElementException.class, () -> page.turn(-1, false));
        check.due("lines before", Pages.lines(page, 3), "1,0,0");
        check.due("turn(0, false)", page.turn(0, false), 0);
        check.due("turn(0, true)", page.turn(0, true), 0);
        check.due("turn(0, true) again", page.turn(0, true), 1);
        check.due("turn(1, true)", page.turn(1, true), 0);
        check.due("lines with two turned", Pages.lines(page, 3), "1,1,0");
        check.due("blocks with two turned", Pages.blocks(page, 3), "1,1,0");
        check.due("text with two turned", Pages.text(page), "c|ab");
        check.due("turn(2, true)", page.turn(2, true), 0);
        check.due("a turned line goes up", Pages.text(page), "abc");
        check.due("lines with all turned", Pages.lines(page, 3), "0,0,0");
        page.sign('d', 20, 0, 5, 10);
        page.turn(3, true);
        check.due("a turned line is above what is right of it", Pages.lines(page, 4), "0,0,0,1");
        check.due("turn(2, false)", page.turn(2, false), 1);
        check.due("turned lines come last", Pages.lines(page, 4), "1,1,0,2");
        check.end();
    }
}
