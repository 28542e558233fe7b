/** Promise 14: word. */
public final class WordTest {
    private static final Check CHECK = new Check("WordTest");

    public static void main(String[] args) {
        words();
        noWords();
        blanksAtTheEnds();
        lettersBesideTheBlanks();
        mostWords();
        longestWord();
        noSuchWord();
        nothingElseToTell();
        CHECK.end();
    }

    private static void words() {
        TextOrder page = Pages.lettered();
        Pages.row(page, "ab", 0, 0);
        Pages.row(page, "cde", 12, 0);
        Pages.row(page, "f-", 0, -12);
        Pages.row(page, "g", 0, -24);
        Pages.row(page, "hi", 0, -44);
        CHECK.due("text", Pages.text(page), "ab_cde_fg|hi");
        CHECK.due("words", Pages.words(page), "0+2,3+3,7+2,10+2");
        CHECK.due("how many", page.word(-1, 1), 4);
    }

    private static void wrong(TextOrder page, int i, int what) {
        CHECK.dueThrow("word(" + i + ", " + what + ")", IndexOutOfBoundsException.class, () -> page.word(i, what));
    }

    private static void noWords() {
        TextOrder page = Pages.lettered();
        CHECK.due("without signs", page.word(-1, 0), 0);
        wrong(page, 0, 0);
        wrong(page, 0, 1);
        Pages.row(page, " \n ", 0, 0);
        CHECK.due("three letters", page.length(), 3);
        CHECK.due("blanks alone", page.word(-1, 0), 0);
        wrong(page, 0, 0);
        wrong(page, 0, 1);
    }

    private static void blanksAtTheEnds() {
        TextOrder page = Pages.lettered();
        Pages.row(page, " a \nbc\n", 0, 0);
        CHECK.due("between blanks", Pages.words(page), "1+1,4+2");
        wrong(page, 2, 0);
        TextOrder ends = Pages.lettered();
        Pages.row(ends, "a b", 0, 0);
        CHECK.due("at both ends of the text", Pages.words(ends), "0+1,2+1");
        TextOrder one = Pages.lettered();
        Pages.row(one, "a", 0, 0);
        CHECK.due("the least text", Pages.words(one), "0+1");
        TextOrder two = new TextOrder();
        two.map(0, 1, 'a', ' ');
        two.map(0, 2, '\n', 'b');
        two.sign(1, 0, 0, 5, 10);
        two.sign(2, 5, 0, 5, 10);
        CHECK.due("blanks of signs with two letters", Pages.words(two), "0+1,3+1");
    }

    /** "Rows of letters other than 10 and 32". */
    private static void lettersBesideTheBlanks() {
        TextOrder page = new TextOrder();
        int[] letters = {9, 11, 31, 33, 1, 13, 160, 65533, 65535};
        for (int i = 0; i < letters.length; i++) {
            page.map(0, i, letters[i], 0);
            page.sign(i, i * 5L, 0, 5, 10);
        }
        CHECK.due("letters that are no blanks", Pages.words(page), "0+9");
        page.map(0, 1, 10, 0);
        page.map(0, 3, 32, 0);
        CHECK.due("10 and 32 are", Pages.words(page), "0+1,2+1,4+5");
    }

    private static void mostWords() {
        TextOrder page = new TextOrder();
        page.map(0, 1, 'f', 'i');
        for (int i = 0; i < 200; i++) {
            page.sign(1, i * 10L, 0, 5, 10);
        }
        CHECK.due("how many", page.word(-1, 0), 200);
        CHECK.due("word(199, 0)", page.word(199, 0), 597);
        CHECK.due("word(199, 1)", page.word(199, 1), 2);
        wrong(page, 200, 0);
        wrong(page, 200, 1);
        page.map(0, 1, 'f', ' ');
        CHECK.due("how many with a blank in each", page.word(-1, 0), 200);
        CHECK.due("word(199, 1) with a blank in each", page.word(199, 1), 1);
    }

    private static void longestWord() {
        TextOrder page = new TextOrder();
        page.map(0, 1, 'f', 'i');
        for (int i = 0; i < 200; i++) {
            page.sign(1, i * 5L, 0, 5, 10);
        }
        CHECK.due("one word", Pages.words(page), "0+400");
        wrong(page, 1, 0);
    }

    /** "i = -1: how many words"; any other i that is no word is refused. */
    private static void noSuchWord() {
        TextOrder page = Pages.lettered();
        Pages.row(page, "ab", 0, 0);
        for (int i : new int[] {-2, 1, 2, 200, Integer.MIN_VALUE, Integer.MAX_VALUE}) {
            wrong(page, i, 0);
            wrong(page, i, 1);
        }
        CHECK.due("words behind them", Pages.words(page), "0+2");
    }

    private static void nothingElseToTell() {
        TextOrder page = Pages.lettered();
        Pages.row(page, "ab", 0, 0);
        for (int what : new int[] {-1, 2, 256, Integer.MIN_VALUE, Integer.MAX_VALUE}) {
            wrong(page, 0, what);
            wrong(page, 1, what);
            CHECK.due("how many, whatever is asked: " + what, page.word(-1, what), 1);
        }
        CHECK.due("words behind them", Pages.words(page), "0+2");
    }
}
