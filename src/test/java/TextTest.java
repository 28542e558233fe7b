/** Promises 6 to 8: length, letter, from, with all that stands between signs. */
public final class TextTest {
    private static final Check CHECK = new Check("TextTest");

    public static void main(String[] args) {
        wrongPlaces();
        twoLetters();
        betweenSigns();
        hyphens();
        hyphensWithTags();
        longest();
        CHECK.end();
    }

    private static void wrongPlaces() {
        TextOrder page = Pages.lettered();
        CHECK.dueThrow("letter(0) without signs", IndexOutOfBoundsException.class, () -> page.letter(0));
        CHECK.dueThrow("from(0) without signs", IndexOutOfBoundsException.class, () -> page.from(0));
        Pages.row(page, "ab", 0, 0);
        CHECK.due("length()", page.length(), 2);
        CHECK.due("letter(1)", page.letter(1), 'b');
        CHECK.due("from(1)", page.from(1), 1);
        for (int i : new int[] {-1, 2, 600, Integer.MIN_VALUE, Integer.MAX_VALUE}) {
            CHECK.dueThrow("letter(" + i + ")", IndexOutOfBoundsException.class, () -> page.letter(i));
            CHECK.dueThrow("from(" + i + ")", IndexOutOfBoundsException.class, () -> page.from(i));
        }
    }

    private static void twoLetters() {
        TextOrder page = new TextOrder();
        page.map(0, 1, 'f', 'i');
        page.map(0, 2, 65535, 0);
        page.sign(1, 5, 0, 5, 10);
        page.sign(2, 0, 0, 5, 10);
        page.sign(3, 10, 0, 5, 10);
        CHECK.due("length()", page.length(), 4);
        CHECK.due("letter(0)", page.letter(0), 65535);
        CHECK.due("letter(1)", page.letter(1), 'f');
        CHECK.due("letter(2)", page.letter(2), 'i');
        CHECK.due("letter(3)", page.letter(3), 65533);
        CHECK.due("owners", Pages.owners(page), "1,0,0,2");
    }

    private static void betweenSigns() {
        TextOrder page = Pages.lettered();
        page.sign('a', 0, 0, 5, 10);
        page.sign('b', 7, 0, 5, 10);
        page.sign('c', 42, 0, 5, 10);
        page.sign('d', 0, -12, 47, 10);
        CHECK.due("a space, a cut in one block, a line", Pages.text(page), "a_b_c_d");
        CHECK.due("whose they are", Pages.owners(page), "0,-1,1,-1,2,-1,3");
        page.sign('e', 0, -32, 47, 10);
        CHECK.due("another block", Pages.text(page), "a_b_c_d|e");
        TextOrder blanks = Pages.lettered();
        blanks.sign(32, 0, 0, 5, 10);
        blanks.sign(10, 7, 0, 5, 10);
        CHECK.due("blanks that are signs", Pages.text(blanks), "__|");
        CHECK.due("are theirs", Pages.owners(blanks), "0,-1,1");
    }

    private static void hyphens() {
        for (String[] pair : new String[][] {{"a", "a"}, {"z", "z"}, {"`", "-_`"}, {"{", "-_{"}, {"A", "-_A"},
                {"-", "-_-"}}) {
            TextOrder page = Pages.lettered();
            Pages.row(page, "x-", 0, 0);
            Pages.row(page, pair[0], 0, -12);
            CHECK.due("a hyphen before " + pair[0], Pages.text(page), "x" + pair[1]);
        }
        TextOrder inLine = Pages.lettered();
        Pages.row(inLine, "x-y", 0, 0);
        CHECK.due("a hyphen within a line", Pages.text(inLine), "x-y");
        TextOrder spaced = Pages.lettered();
        Pages.row(spaced, "x-", 0, 0);
        Pages.row(spaced, "y", 12, 0);
        CHECK.due("a hyphen before a space", Pages.text(spaced), "x-_y");
        TextOrder cut = Pages.lettered();
        Pages.row(cut, "x-", 0, 0);
        Pages.row(cut, "y", 40, 0);
        cut.sign('w', 0, -12, 45, 10);
        CHECK.due("a hyphen before a cut", Pages.text(cut), "xy_w");
        TextOrder blocks = Pages.lettered();
        Pages.row(blocks, "x-", 0, 0);
        Pages.row(blocks, "y", 0, -20);
        CHECK.due("a hyphen before another block", Pages.text(blocks), "x-|y");
        TextOrder two = Pages.lettered();
        two.map(0, 1, 'q', '-');
        two.map(0, 2, 'r', 'S');
        two.map(0, 3, 'S', 'r');
        two.sign(1, 0, 0, 5, 10);
        two.sign(2, 0, -12, 5, 10);
        two.sign(1, 5, -12, 5, 10);
        two.sign(3, 0, -24, 5, 10);
        CHECK.due("a hyphen as a second letter", Pages.text(two), "qrSq-_Sr");
        CHECK.due("whose they are", Pages.owners(two), "0,1,1,2,2,-1,3,3");
        TextOrder alone = Pages.lettered();
        Pages.row(alone, "-", 0, 0);
        Pages.row(alone, "y", 0, -12);
        CHECK.due("a hyphen alone", Pages.text(alone), "y");
        CHECK.due("is of no sign", Pages.owners(alone), "1");
    }

    private static void hyphensWithTags() {
        TextOrder page = Pages.lettered();
        Pages.row(page, "x-", 0, 0);
        Pages.row(page, "y", 0, -12);
        page.tag(2, 5);
        CHECK.due("a tag goes before", Pages.text(page), "y|x-");
        page.tag(0, 5);
        page.tag(1, 5);
        CHECK.due("joined in one tag", Pages.text(page), "xy");
        page.tag(2, 6);
        CHECK.due("not joined over tags", Pages.text(page), "x-|y");
        page.tag(2, -1);
        CHECK.due("not joined to one without a tag", Pages.text(page), "x-|y");
    }

    private static void longest() {
        TextOrder page = new TextOrder();
        page.map(0, 1, 'f', 'i');
        for (int i = 0; i < 200; i++) {
            page.sign(1, i * 10L, 0, 5, 10);
        }
        CHECK.due("length() of the longest text", page.length(), 599);
        CHECK.due("its last letter", page.letter(598), 'i');
        CHECK.due("whose it is", page.from(598), 199);
        CHECK.due("its words", page.word(-1, 0), 200);
        page.find(10);
        CHECK.due("its spaces", page.find(0), 199);
        CHECK.due("its last space", page.found(198), 596);
    }
}
