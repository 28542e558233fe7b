/** Promise 17: area. */
public final class AreaTest {
    private static final Check CHECK = new Check("AreaTest");

    public static void main(String[] args) {
        lettersOfSigns();
        endsOfTheArea();
        fromRightToLeft();
        endsOfThePage();
        beyondThePage();
        placesOfTurnedSigns();
        nothingAndAll();
        CHECK.end();
    }

    private static void lettersOfSigns() {
        TextOrder page = Pages.lettered();
        page.map(0, 1, 'f', 'i');
        page.sign(1, 10, 20, 5, 10);
        page.sign('b', 17, 20, 5, 10);
        page.sign('b', 17, 21, 5, 10);
        page.sign('-', 10, 8, 5, 10);
        page.sign('C', 10, -4, 5, 10);
        CHECK.due("text", Pages.text(page), "fi_b_-_C");
        CHECK.due("all, but not what came between nor doubles", page.area(10, -4, 17, 21), 5);
        CHECK.due("a double's place", page.area(17, 21, 17, 21), 0);
        CHECK.due("one place of two letters", page.area(10, 20, 10, 20), 2);
        page.map(0, 'C', 'c', 0);
        CHECK.due("text with a hyphen joined", Pages.text(page), "fi_b_c");
        CHECK.due("a joined hyphen is no letter", page.area(10, 8, 10, 8), 0);
        CHECK.due("all with a hyphen joined", page.area(10, -4, 17, 20), 4);
    }

    /** "In an area (ends with it)": a sign at (10, 20), and each end of the area on it and beside it. */
    private static void endsOfTheArea() {
        TextOrder page = new TextOrder();
        page.sign(7, 10, 20, 5, 10);
        CHECK.due("the place alone", page.area(10, 20, 10, 20), 1);
        CHECK.due("the left end on it", page.area(10, 0, 100, 100), 1);
        CHECK.due("the left end beside it", page.area(11, 0, 100, 100), 0);
        CHECK.due("the right end on it", page.area(0, 0, 10, 100), 1);
        CHECK.due("the right end beside it", page.area(0, 0, 9, 100), 0);
        CHECK.due("the lower end on it", page.area(0, 20, 100, 100), 1);
        CHECK.due("the lower end above it", page.area(0, 21, 100, 100), 0);
        CHECK.due("the upper end on it", page.area(0, 0, 100, 20), 1);
        CHECK.due("the upper end below it", page.area(0, 0, 100, 19), 0);
        CHECK.due("its width and size are not its place", page.area(11, 21, 15, 30), 0);
    }

    private static void fromRightToLeft() {
        TextOrder page = new TextOrder();
        page.sign(7, 10, 20, 5, 10);
        CHECK.due("nothing lies from right to left", page.area(11, 20, 9, 20), 0);
        CHECK.due("nothing lies from top to bottom", page.area(10, 21, 10, 19), 0);
        CHECK.due("nor both", page.area(11, 21, 9, 19), 0);
        CHECK.due("nor from the greatest to the least",
                page.area(Long.MAX_VALUE, Long.MAX_VALUE, Long.MIN_VALUE, Long.MIN_VALUE), 0);
    }

    private static void endsOfThePage() {
        TextOrder page = new TextOrder();
        page.sign(7, -1000000, -1000000, 0, 1);
        page.sign(7, 1000000, 1000000, 1000000, 1000);
        page.sign(7, -1000000, 1000000, 0, 1);
        page.sign(7, 1000000, -1000000, 1000000, 1000);
        CHECK.due("the page", page.area(-1000000, -1000000, 1000000, 1000000), 4);
        CHECK.due("without its left end", page.area(-999999, -1000000, 1000000, 1000000), 2);
        CHECK.due("without its lower end", page.area(-1000000, -999999, 1000000, 1000000), 2);
        CHECK.due("without its right end", page.area(-1000000, -1000000, 999999, 1000000), 2);
        CHECK.due("without its upper end", page.area(-1000000, -1000000, 1000000, 999999), 2);
        CHECK.due("one corner", page.area(1000000, -1000000, 1000000, -1000000), 1);
    }

    /** Any long is an end; one that would be on the page if it were cut to an int is not. */
    private static void beyondThePage() {
        TextOrder page = new TextOrder();
        page.sign(7, 10, 20, 5, 10);
        CHECK.due("all longs", page.area(Long.MIN_VALUE, Long.MIN_VALUE, Long.MAX_VALUE, Long.MAX_VALUE), 1);
        CHECK.due("left of all", page.area(Long.MIN_VALUE, 20, Long.MIN_VALUE, 20), 0);
        CHECK.due("above all", page.area(10, Long.MAX_VALUE, 10, Long.MAX_VALUE), 0);
        long turn = 1L << 32;
        CHECK.due("x beyond ints", page.area(turn + 10, 20, turn + 10, 20), 0);
        CHECK.due("y beyond ints", page.area(10, turn + 20, 10, turn + 20), 0);
        CHECK.due("from below ints to beyond them", page.area(-turn, -turn, turn, turn), 1);
    }

    private static void placesOfTurnedSigns() {
        TextOrder page = new TextOrder();
        page.sign(7, 10, 20, 5, 10);
        page.turn(0, true);
        CHECK.due("a turned sign's place is (x, y)", page.area(10, 20, 10, 20), 1);
        CHECK.due("and not (u, v)", page.area(20, -10, 20, -10), 0);
    }

    private static void nothingAndAll() {
        TextOrder page = new TextOrder();
        CHECK.due("without signs", page.area(-1000000, -1000000, 1000000, 1000000), 0);
        page.map(0, 1, 'f', 'i');
        for (int i = 0; i < 200; i++) {
            page.sign(1, i * 10L, 0, 5, 10);
        }
        CHECK.due("length() with what came between", page.length(), 599);
        CHECK.due("two letters of each of 200", page.area(0, 0, 1990, 0), 400);
        CHECK.due("without the last", page.area(0, 0, 1989, 0), 398);
    }
}
