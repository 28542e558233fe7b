import java.util.NoSuchElementException;

/** Promise 9: line. */
public final class LineTest {
    private static final Check CHECK = new Check("LineTest");

    public static void main(String[] args) {
        wrongSigns();
        halfOfTheSize();
        heads();
        orderInLine();
        doublesHaveNone();
        CHECK.end();
    }

    private static void wrongSigns() {
        TextOrder page = Pages.lettered();
        page.sign('a', 0, 0, 5, 10);
        CHECK.dueThrow("line(1)", NoSuchElementException.class, () -> page.line(1));
        CHECK.dueThrow("line(-1)", NoSuchElementException.class, () -> page.line(-1));
        CHECK.due("line(0)", page.line(0), 0);
    }

    private static void halfOfTheSize() {
        TextOrder page = Pages.lettered();
        page.sign('a', 0, 0, 5, 10);
        page.sign('b', 5, -5, 5, 10);
        page.sign('c', 10, -6, 5, 10);
        page.sign('d', 15, -11, 5, 10);
        CHECK.due("an even size", Pages.lines(page, 4), "0,0,1,1");
        TextOrder odd = Pages.lettered();
        odd.sign('a', 0, 0, 5, 11);
        odd.sign('b', 5, -5, 5, 90);
        odd.sign('c', 10, -6, 5, 90);
        CHECK.due("an odd size, of the upper one", Pages.lines(odd, 3), "0,0,1");
    }

    private static void heads() {
        TextOrder page = Pages.lettered();
        page.sign('a', 9, 0, 1, 100);
        page.sign('b', 3, 0, 1, 10);
        page.sign('c', 3, 0, 1, 50);
        page.sign('d', 0, -6, 1, 10);
        CHECK.due("the left one is the head, of these the first", Pages.lines(page, 4), "0,0,0,1");
        page.sign('e', 2, 0, 1, 12);
        CHECK.due("another is more left", Pages.lines(page, 5), "0,0,0,0,0");
        page.sign('f', 50, 2, 1, 4);
        CHECK.due("another is higher", Pages.lines(page, 6), "0,0,0,1,0,0");
    }

    private static void orderInLine() {
        TextOrder page = Pages.lettered();
        page.sign('c', 10, 0, 5, 10);
        page.sign('a', 0, -3, 5, 10);
        page.sign('d', 10, 2, 5, 10);
        page.sign('b', 5, 1, 5, 10);
        CHECK.due("by u, then by number", Pages.text(page), "abcd");
        CHECK.due("one line", Pages.lines(page, 4), "0,0,0,0");
    }

    private static void doublesHaveNone() {
        TextOrder page = Pages.lettered();
        page.sign('a', 0, 0, 5, 10);
        page.sign('a', 0, 2, 5, 10);
        page.sign('b', 0, -6, 5, 10);
        CHECK.due("a double has no line and heads none", Pages.lines(page, 3), "0,-1,1");
    }
}
