/** Promise 4: map. */
public final class MapTest {
    private static final Check CHECK = new Check("MapTest");

    public static void main(String[] args) {
        answers();
        ranks();
        wrongMaps();
        CHECK.end();
    }

    private static void answers() {
        TextOrder page = new TextOrder();
        CHECK.due("none, then one", page.map(0, 0, 1, 0), 0);
        CHECK.due("one, then two", page.map(0, 0, 65535, 65535), 1);
        CHECK.due("two, then two", page.map(0, 0, 7, 8), 2);
        CHECK.due("two, then one", page.map(0, 0, 7, 0), 2);
        CHECK.due("one, then none", page.map(0, 0, 0, 0), 1);
        CHECK.due("none, then none", page.map(0, 0, 0, 0), 0);
        CHECK.due("the last map and code", page.map(3, 255, 9, 9), 0);
        CHECK.due("it alone has changed", page.map(3, 254, 0, 0) + page.map(2, 255, 0, 0), 0);
        CHECK.due("and tells two", page.map(3, 255, 0, 0), 2);
    }

    private static void ranks() {
        TextOrder page = new TextOrder();
        page.sign(65, 0, 0, 5, 10);
        CHECK.due("no map tells it", Pages.text(page), "#");
        page.map(3, 65, 'd', 0);
        CHECK.due("map 3", Pages.text(page), "d");
        page.map(1, 65, 'b', 'c');
        CHECK.due("map 1 before map 3", Pages.text(page), "bc");
        CHECK.due("both letters are of the sign", Pages.owners(page), "0,0");
        page.map(2, 65, 'x', 'y');
        CHECK.due("map 1 before map 2", Pages.text(page), "bc");
        page.map(0, 65, 'a', 0);
        CHECK.due("map 0 before all", Pages.text(page), "a");
        page.map(0, 65, 0, 0);
        page.map(1, 65, 0, 0);
        CHECK.due("map 2, as 0 and 1 tell it no more", Pages.text(page), "xy");
        page.map(0, 66, 'z', 0);
        CHECK.due("another code", Pages.text(page), "xy");
        TextOrder least = new TextOrder();
        least.sign(0, 0, 0, 5, 10);
        least.sign(255, 5, 0, 5, 10);
        least.map(0, 0, 'p', 'q');
        least.map(3, 255, 'r', 's');
        CHECK.due("the first code of the first map, the last of the last", Pages.text(least), "pqrs");
    }

    private static void wrong(TextOrder page, int kind, int code, int letter, int second,
            Class<? extends RuntimeException> want) {
        CHECK.dueThrow("map(" + kind + ", " + code + ", " + letter + ", " + second + ")", want,
                () -> page.map(kind, code, letter, second));
    }

    private static void wrongMaps() {
        TextOrder page = new TextOrder();
        page.map(0, 1, 'a', 0);
        page.sign(1, 0, 0, 5, 10);
        wrong(page, -1, 1, 5, 0, IndexOutOfBoundsException.class);
        wrong(page, 4, 1, 5, 0, IndexOutOfBoundsException.class);
        wrong(page, Integer.MAX_VALUE, 1, 5, 0, IndexOutOfBoundsException.class);
        wrong(page, 0, -1, 5, 0, IndexOutOfBoundsException.class);
        wrong(page, 0, 256, 5, 0, IndexOutOfBoundsException.class);
        wrong(page, 1, -255, 5, 0, IndexOutOfBoundsException.class);
        wrong(page, 4, 1, -1, 0, IndexOutOfBoundsException.class);
        wrong(page, 0, 256, 0, 1, IndexOutOfBoundsException.class);
        wrong(page, 0, 1, -1, 0, IllegalArgumentException.class);
        wrong(page, 0, 1, 65536, 0, IllegalArgumentException.class);
        wrong(page, 0, 1, 5, -1, IllegalArgumentException.class);
        wrong(page, 0, 1, 5, 65536, IllegalArgumentException.class);
        wrong(page, 0, 1, 0, 5, IllegalArgumentException.class);
        wrong(page, 0, 1, 0, -1, IllegalArgumentException.class);
        CHECK.due("text behind wrong maps", Pages.text(page), "a");
        CHECK.due("what map 0 tells behind wrong maps", page.map(0, 1, 0, 0), 1);
    }
}
