/** Promise 4: map. */
public final class MapTest {
    private static final Check CHECK = new Check("MapTest");

    public static void main(String[] args) {
        answers();
        ranks();
        untold();
        leastAndGreatestLetters();
        noSuchMapOrCode();
        wrongLetters();
        firstNamedException();
        refusedLetterKeepsTheOthers();
        CHECK.end();
    }

    private static void answers() {
        TextOrder page = new TextOrder();
        CHECK.due("none, then one", page.map(0, 0, 1, 0), 0);
        CHECK.due("one, then two", page.map(0, 0, 65535, 65535), 1);
        CHECK.due("two, then two", page.map(0, 0, 7, 8), 2);
        CHECK.due("two, then one", page.map(0, 0, 7, 0), 2);
        CHECK.due("one, then none", page.map(0, 0, 0, 0), 1);
        CHECK.due("none, then none", page.map(0, 0, 0, 0), 0);
        CHECK.due("none, then two", page.map(0, 0, 7, 8), 0);
        CHECK.due("two, then none", page.map(0, 0, 0, 0), 2);
        CHECK.due("none behind two", page.map(0, 0, 0, 0), 0);
        CHECK.due("the last map and code", page.map(3, 255, 9, 9), 0);
        CHECK.due("it alone has changed", page.map(3, 254, 0, 0) + page.map(2, 255, 0, 0), 0);
        CHECK.due("and tells two", page.map(3, 255, 0, 0), 2);
    }

    private static void ranks() {
        TextOrder page = new TextOrder();
        page.sign(65, 0, 0, 5, 10);
        CHECK.due("no map tells it", Pages.text(page), "#");
        page.map(3, 65, 'd', 0);
        CHECK.due("map 3", Pages.text(page), "d");
        page.map(1, 65, 'b', 'c');
        CHECK.due("map 1 before map 3", Pages.text(page), "bc");
        CHECK.due("both letters are of the sign", Pages.owners(page), "0,0");
        page.map(2, 65, 'x', 'y');
        CHECK.due("map 1 before map 2", Pages.text(page), "bc");
        page.map(0, 65, 'a', 0);
        CHECK.due("map 0 before all", Pages.text(page), "a");
        page.map(0, 65, 0, 0);
        page.map(1, 65, 0, 0);
        CHECK.due("map 2, as 0 and 1 tell it no more", Pages.text(page), "xy");
        page.map(0, 66, 'z', 0);
        CHECK.due("another code", Pages.text(page), "xy");
        TextOrder least = new TextOrder();
        least.sign(0, 0, 0, 5, 10);
        least.sign(255, 5, 0, 5, 10);
        least.map(0, 0, 'p', 'q');
        least.map(3, 255, 'r', 's');
        CHECK.due("the first code of the first map, the last of the last", Pages.text(least), "pqrs");
    }

    /** "65533 if none does": before any map, and again when the last map that told it tells none any more. */
    private static void untold() {
        TextOrder page = new TextOrder();
        page.sign(0, 0, 0, 5, 10);
        page.sign(255, 5, 0, 5, 10);
        page.map(3, 0, 'a', 'b');
        page.map(3, 255, 'c', 0);
        CHECK.due("told by the last map", Pages.text(page), "abc");
        page.map(3, 0, 0, 0);
        CHECK.due("the first code is told no more", Pages.text(page), "#c");
        page.map(3, 255, 0, 0);
        CHECK.due("the last code is told no more", Pages.text(page), "##");
        CHECK.due("one letter each", Pages.owners(page), "0,1");
        page.map(0, 1, 'x', 0);
        page.map(0, 254, 'x', 0);
        CHECK.due("told of the codes beside them", Pages.text(page), "##");
    }

    /** "Each 1 .. 65535". */
    private static void leastAndGreatestLetters() {
        TextOrder page = new TextOrder();
        page.sign(7, 0, 0, 5, 10);
        page.map(0, 7, 1, 0);
        CHECK.due("the least letter", page.letter(0), 1);
        page.map(0, 7, 65535, 1);
        CHECK.due("the greatest letter", page.letter(0), 65535);
        CHECK.due("the least second", page.letter(1), 1);
        page.map(0, 7, 1, 65535);
        CHECK.due("the least letter before a second", page.letter(0), 1);
        CHECK.due("the greatest second", page.letter(1), 65535);
        CHECK.due("two letters", page.length(), 2);
        page.map(0, 7, 1, 0);
        CHECK.due("one letter, without the second that was", page.length(), 1);
        CHECK.due("the least letter is one that was told", page.map(0, 7, 2, 1), 1);
        CHECK.due("and so is the least second", page.map(0, 7, 65535, 65535), 2);
        CHECK.due("and the greatest", page.map(0, 7, 0, 0), 2);
    }

    private static void wrong(TextOrder page, int kind, int code, int letter, int second,
            Class<? extends RuntimeException> want) {
        CHECK.dueThrow("map(" + kind + ", " + code + ", " + letter + ", " + second + ")", want,
                () -> page.map(kind, code, letter, second));
    }

    /** A page on which maps 0 and 3 tell the first and the last code, each with a sign: "abcd". */
    private static TextOrder page() {
        TextOrder page = new TextOrder();
        page.map(0, 0, 'a', 'b');
        page.map(3, 255, 'c', 'd');
        page.sign(0, 0, 0, 5, 10);
        page.sign(255, 5, 0, 5, 10);
        return page;
    }

    private static void unchanged(TextOrder page) {
        CHECK.due("text behind wrong maps", Pages.text(page), "abcd");
        CHECK.due("what map 0 tells behind wrong maps", page.map(0, 0, 0, 0), 2);
        CHECK.due("what map 3 tells behind wrong maps", page.map(3, 255, 0, 0), 2);
        CHECK.due("what maps tell of other codes", page.map(3, 0, 0, 0) + page.map(0, 255, 0, 0)
                + page.map(1, 0, 0, 0) + page.map(0, 1, 0, 0) + page.map(2, 255, 0, 0), 0);
    }

    private static void noSuchMapOrCode() {
        TextOrder page = page();
        for (int kind : new int[] {-1, 4, -4, 256, Integer.MIN_VALUE, Integer.MAX_VALUE}) {
            wrong(page, kind, 0, 5, 0, IndexOutOfBoundsException.class);
            wrong(page, kind, 255, 0, 0, IndexOutOfBoundsException.class);
        }
        for (int code : new int[] {-1, 256, -256, 1024, Integer.MIN_VALUE, Integer.MAX_VALUE}) {
            wrong(page, 0, code, 5, 0, IndexOutOfBoundsException.class);
            wrong(page, 1, code, 5, 6, IndexOutOfBoundsException.class);
            wrong(page, 3, code, 0, 0, IndexOutOfBoundsException.class);
        }
        unchanged(page);
    }

    /** "One (second = 0) or two, each 1 .. 65535 (letter = 0, second 0 then)". */
    private static void wrongLetters() {
        TextOrder page = page();
        for (int letter : new int[] {-1, 65536, 65536 + 97, Integer.MIN_VALUE, Integer.MAX_VALUE}) {
            wrong(page, 0, 0, letter, 0, IllegalArgumentException.class);
            wrong(page, 0, 0, letter, 5, IllegalArgumentException.class);
            wrong(page, 3, 255, 5, letter, IllegalArgumentException.class);
            wrong(page, 3, 255, 0, letter, IllegalArgumentException.class);
        }
        wrong(page, 0, 0, 0, 1, IllegalArgumentException.class);
        wrong(page, 0, 0, 0, 65535, IllegalArgumentException.class);
        unchanged(page);
    }

    /** A map or code that is not there and a wrong letter: "it is the one that it names first". */
    private static void firstNamedException() {
        TextOrder page = page();
        wrong(page, -1, 0, -1, 0, IndexOutOfBoundsException.class);
        wrong(page, 4, 0, 65536, 0, IndexOutOfBoundsException.class);
        wrong(page, 0, -1, 5, -1, IndexOutOfBoundsException.class);
        wrong(page, 0, 256, 5, 65536, IndexOutOfBoundsException.class);
        wrong(page, 4, 256, 0, 1, IndexOutOfBoundsException.class);
        unchanged(page);
    }

    private static void refusedLetterKeepsTheOthers() {
        TextOrder page = page();
        wrong(page, 0, 0, 'x', 65536, IllegalArgumentException.class);
        CHECK.due("a right letter before a wrong second is not taken", Pages.text(page), "abcd");
        wrong(page, 0, 0, 65536, 'x', IllegalArgumentException.class);
        CHECK.due("nor a right second behind a wrong letter", Pages.text(page), "abcd");
        wrong(page, 0, 0, 0, 'x', IllegalArgumentException.class);
        CHECK.due("nor is a code told no more", Pages.text(page), "abcd");
    }
}
