/** Promise 14: word. */
public final class WordTest {
    private static final Check CHECK = new Check("WordTest");

    public static void main(String[] args) {
        words();
        onlyBlanks();
        wrongWords();
        CHECK.end();
    }

    private static void words() {
        TextOrder page = Pages.lettered();
        CHECK.due("no words", page.word(-1, 0), 0);
        Pages.row(page, "ab", 0, 0);
        Pages.row(page, "cde", 12, 0);
        Pages.row(page, "f-", 0, -12);
        Pages.row(page, "g", 0, -24);
        Pages.row(page, "hi", 0, -44);
        CHECK.due("text", Pages.text(page), "ab_cde_fg|hi");
        CHECK.due("words", Pages.words(page), "0+2,3+3,7+2,10+2");
        CHECK.due("how many", page.word(-1, 1), 4);
    }

    private static void onlyBlanks() {
        TextOrder page = Pages.lettered();
        Pages.row(page, " \n ", 0, 0);
        CHECK.due("blanks that are signs", page.word(-1, 0), 0);
        Pages.row(page, "a", 15, 0);
        Pages.row(page, " \tb\n", 20, 0);
        CHECK.due("words between blanks", Pages.words(page), "3+1,5+2");
    }

    private static void wrong(TextOrder page, int i, int what) {
        CHECK.dueThrow("word(" + i + ", " + what + ")", IndexOutOfBoundsException.class, () -> page.word(i, what));
    }

    private static void wrongWords() {
        TextOrder page = Pages.lettered();
        wrong(page, 0, 0);
        Pages.row(page, "ab", 0, 0);
        wrong(page, 1, 0);
        wrong(page, 1, 1);
        wrong(page, -2, 0);
        wrong(page, Integer.MIN_VALUE, 1);
        wrong(page, Integer.MAX_VALUE, 1);
        wrong(page, 0, 2);
        wrong(page, 0, -1);
        CHECK.due("how many, whatever is asked of it", page.word(-1, 7), 1);
        CHECK.due("word(0, 1)", page.word(0, 1), 2);
    }
}
