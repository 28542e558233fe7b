/** A call that throws, and a call that only tells, changes nothing. */
public final class UnchangedTest {
    private static final Check CHECK = new Check("UnchangedTest");

    private static TextOrder page() {
        TextOrder page = Pages.lettered();
        Pages.row(page, "ab-", 0, 0);
        Pages.row(page, "cd", 0, -12);
        Pages.row(page, "a", 1, 1);
        Pages.row(page, "e", 100, 0);
        page.tag(6, 3);
        page.turn(4, true);
        page.find('b');
        page.find(0);
        page.find('a');
        return page;
    }

    public static void main(String[] args) {
        String due = Pages.told(page(), 7);
        Runnable[] none = {};
        CHECK.due("without calls", told(page(), none), due);
        TextOrder page = page();
        Runnable[] calls = {
            () -> page.sign(256, 0, 0, 0, 1), () -> page.turn(7, true), () -> page.map(4, 'a', 1, 0),
            () -> page.map(0, 'a', 0, 1), () -> page.tag(7, 0), () -> page.tag(0, 101), () -> page.letter(99),
            () -> page.from(-1), () -> page.line(7), () -> page.block(7), () -> page.twice(7),
            () -> page.space(7), () -> page.share(1, 0), () -> page.word(99, 0), () -> page.find(-1),
            () -> page.found(1)};
        CHECK.due("behind calls that throw", told(page, calls), due);
        CHECK.due("found(0) behind calls that throw", page.found(0), 3);
        CHECK.due("what is sought behind calls that throw", page.find('b'), 2);
        CHECK.end();
    }

    private static String told(TextOrder page, Runnable[] calls) {
        for (Runnable call : calls) {
            try {
                call.run();
                CHECK.due("a wrong call", "nothing thrown", "something thrown");
            } catch (RuntimeException e) {
                CHECK.due("a wrong call", "something thrown", "something thrown");
            }
        }
        return Pages.told(page, 7);
    }
}
