/** Promises 6 to 8: length, letter, from, with all that stands between signs. */
public final class TextTest {
    private static final Check CHECK = new Check("TextTest");

    public static void main(String[] args) {
        noText();
        wrongPlaces();
        twoLetters();
        betweenSigns();
        nextInTheSegment();
        hyphens();
        whatIsNoHyphen();
        hyphensInRows();
        hyphensWithTags();
        longest();
        longestWithoutSpaces();
        CHECK.end();
    }

    private static void noText() {
        TextOrder page = Pages.lettered();
        CHECK.due("length() without signs", page.length(), 0);
        for (int i : new int[] {0, -1, 1, Integer.MIN_VALUE, Integer.MAX_VALUE}) {
            CHECK.dueThrow("letter(" + i + ") without signs", IndexOutOfBoundsException.class, () -> page.letter(i));
            CHECK.dueThrow("from(" + i + ") without signs", IndexOutOfBoundsException.class, () -> page.from(i));
        }
        CHECK.due("length() behind them", page.length(), 0);
    }

    private static void wrongPlaces() {
        TextOrder page = Pages.lettered();
        Pages.row(page, "ab", 0, 0);
        CHECK.due("length()", page.length(), 2);
        CHECK.due("letter(0)", page.letter(0), 'a');
        CHECK.due("from(0)", page.from(0), 0);
        CHECK.due("letter(1)", page.letter(1), 'b');
        CHECK.due("from(1)", page.from(1), 1);
        for (int i : new int[] {-1, 2, 3, 599, 600, Integer.MIN_VALUE, Integer.MAX_VALUE}) {
            CHECK.dueThrow("letter(" + i + ")", IndexOutOfBoundsException.class, () -> page.letter(i));
            CHECK.dueThrow("from(" + i + ")", IndexOutOfBoundsException.class, () -> page.from(i));
        }
        page.sign('a', 0, 0, 5, 10);
        CHECK.dueThrow("letter(2) behind a double", IndexOutOfBoundsException.class, () -> page.letter(2));
        page.sign('c', 10, 0, 5, 10);
        CHECK.due("letter(2) behind a third", page.letter(2), 'c');
        CHECK.due("from(2) behind a third", page.from(2), 3);
        page.turn(3, true);
        CHECK.due("letter(3) when it is turned", page.letter(3), 'c');
        page.turn(3, false);
        CHECK.dueThrow("letter(3) when it is not", IndexOutOfBoundsException.class, () -> page.letter(3));
        CHECK.dueThrow("from(3) when it is not", IndexOutOfBoundsException.class, () -> page.from(3));
    }

    private static void twoLetters() {
        TextOrder page = new TextOrder();
        page.map(0, 1, 'f', 'i');
        page.map(0, 2, 65535, 0);
        page.sign(1, 5, 0, 5, 10);
        page.sign(2, 0, 0, 5, 10);
        page.sign(3, 10, 0, 5, 10);
        CHECK.due("length()", page.length(), 4);
        CHECK.due("letter(0)", page.letter(0), 65535);
        CHECK.due("letter(1)", page.letter(1), 'f');
        CHECK.due("letter(2)", page.letter(2), 'i');
        CHECK.due("letter(3)", page.letter(3), 65533);
        CHECK.due("owners", Pages.owners(page), "1,0,0,2");
    }

    private static void betweenSigns() {
        TextOrder page = Pages.lettered();
        page.sign('a', 0, 0, 5, 10);
        page.sign('b', 7, 0, 5, 10);
        page.sign('c', 42, 0, 5, 10);
        page.sign('d', 0, -12, 47, 10);
        CHECK.due("a space, a cut in one block, a line", Pages.text(page), "a_b_c_d");
        CHECK.due("whose they are", Pages.owners(page), "0,-1,1,-1,2,-1,3");
        page.sign('e', 0, -32, 47, 10);
        CHECK.due("another block", Pages.text(page), "a_b_c_d|e");
        TextOrder blanks = Pages.lettered();
        blanks.sign(32, 0, 0, 5, 10);
        blanks.sign(10, 7, 0, 5, 10);
        CHECK.due("blanks that are signs", Pages.text(blanks), "__|");
        CHECK.due("are theirs", Pages.owners(blanks), "0,-1,1");
    }

    /** "Nothing, or 32 (behind a SPACE), if the later one is the next in the same segment". */
    private static void nextInTheSegment() {
        TextOrder page = Pages.lettered();
        page.sign('a', 0, 0, 8, 10);
        page.sign('b', 9, 0, 8, 10);
        page.sign('c', 19, 0, 8, 10);
        CHECK.due("nothing, and 32 behind a space", Pages.text(page), "ab_c");
        CHECK.due("32 is of no sign", Pages.owners(page), "0,1,-1,2");
        page.tag(1, 0);
        CHECK.due("a and c are not next in the segment", Pages.text(page), "b|a|c");
        page.tag(2, 0);
        CHECK.due("both of one tag", Pages.text(page), "b_c|a");
        page.tag(2, 1);
        CHECK.due("of two tags, still the next", Pages.text(page), "b_c|a");
    }

    private static void hyphens() {
        for (String[] pair : new String[][] {{"a", "a"}, {"z", "z"}, {"`", "-_`"}, {"{", "-_{"}, {"A", "-_A"},
                {"Z", "-_Z"}, {"-", "-_-"}, {"ab", "ab"}, {"aB", "aB"}, {"Ba", "-_Ba"}, {"1", "-_1"}}) {
            TextOrder page = Pages.lettered();
            Pages.row(page, "x-", 0, 0);
            Pages.row(page, pair[0], 0, -12);
            CHECK.due("a hyphen before " + pair[0], Pages.text(page), "x" + pair[1]);
        }
        TextOrder inLine = Pages.lettered();
        Pages.row(inLine, "x-y", 0, 0);
        CHECK.due("a hyphen within a line", Pages.text(inLine), "x-y");
        TextOrder spaced = Pages.lettered();
        Pages.row(spaced, "x-", 0, 0);
        Pages.row(spaced, "y", 12, 0);
        CHECK.due("a hyphen before a space", Pages.text(spaced), "x-_y");
        TextOrder cut = Pages.lettered();
        Pages.row(cut, "x-", 0, 0);
        Pages.row(cut, "y", 40, 0);
        cut.sign('w', 0, -12, 45, 10);
        CHECK.due("a hyphen before a cut", Pages.text(cut), "xy_w");
        TextOrder blocks = Pages.lettered();
        Pages.row(blocks, "x-", 0, 0);
        Pages.row(blocks, "y", 0, -20);
        CHECK.due("a hyphen before another block", Pages.text(blocks), "x-|y");
        TextOrder two = Pages.lettered();
        two.map(0, 1, 'q', '-');
        two.map(0, 2, 'r', 'S');
        two.map(0, 3, 'S', 'r');
        two.sign(1, 0, 0, 5, 10);
        two.sign(2, 0, -12, 5, 10);
        two.sign(1, 5, -12, 5, 10);
        two.sign(3, 0, -24, 5, 10);
        CHECK.due("a hyphen as a second letter", Pages.text(two), "qrSq-_Sr");
        CHECK.due("whose they are", Pages.owners(two), "0,1,1,2,2,-1,3,3");
        TextOrder alone = Pages.lettered();
        Pages.row(alone, "-", 0, 0);
        Pages.row(alone, "y", 0, -12);
        CHECK.due("a hyphen alone", Pages.text(alone), "y");
        CHECK.due("is of no sign", Pages.owners(alone), "1");
    }

    /** "If the text ends with 45": not with the letters beside it, nor with a blank behind it. */
    private static void whatIsNoHyphen() {
        for (String[] pair : new String[][] {{"x,", "x,_y"}, {"x.", "x._y"}, {"x- ", "x-__y"}, {"-x", "-x_y"}}) {
            TextOrder page = Pages.lettered();
            Pages.row(page, pair[0], 0, 0);
            Pages.row(page, "y", 0, -12);
            CHECK.due("a line that ends with " + pair[0], Pages.text(page), pair[1]);
        }
        TextOrder two = new TextOrder();
        two.map(0, 1, '-', 'x');
        two.map(0, 2, 'y', 0);
        two.sign(1, 0, 0, 5, 10);
        two.sign(2, 0, -12, 5, 10);
        CHECK.due("45 as a first letter of two", Pages.text(two), "-x_y");
        TextOrder untold = new TextOrder();
        untold.map(0, 1, 'y', 0);
        untold.sign(45, 0, 0, 5, 10);
        untold.sign(1, 0, -12, 5, 10);
        CHECK.due("a code 45 without the letter", Pages.text(untold), "#_y");
        untold.map(0, 45, 45, 0);
        untold.map(0, 1, 0, 0);
        CHECK.due("a letter behind it that is not told", Pages.text(untold), "-_#");
    }

    /** "That 45 goes": one, and no more. */
    private static void hyphensInRows() {
        TextOrder page = Pages.lettered();
        Pages.row(page, "x--", 0, 0);
        Pages.row(page, "y", 0, -12);
        CHECK.due("two hyphens", Pages.text(page), "x-y");
        CHECK.due("the later one goes", Pages.owners(page), "0,1,3");
        TextOrder three = Pages.lettered();
        Pages.row(three, "-", 0, 0);
        Pages.row(three, "-", 0, -12);
        Pages.row(three, "y", 0, -24);
        CHECK.due("hyphens alone in two lines", Pages.text(three), "-_y");
        TextOrder both = new TextOrder();
        both.map(0, 1, 'a', '-');
        both.map(0, 2, '-', '-');
        both.sign(2, 0, 0, 5, 10);
        both.sign(1, 0, -12, 5, 10);
        both.sign(1, 0, -24, 5, 10);
        CHECK.due("joined twice", Pages.text(both), "-aa-");
        CHECK.due("whose they are", Pages.owners(both), "0,1,2,2");
        both.map(0, 2, '-', 0);
        CHECK.due("the first sign has no letter left", Pages.text(both), "aa-");
        CHECK.due("it still has a line", both.line(0), 0);
        CHECK.due("and a block", both.block(0), 0);
    }

    private static void hyphensWithTags() {
        TextOrder page = Pages.lettered();
        Pages.row(page, "x-", 0, 0);
        Pages.row(page, "y", 0, -12);
        page.tag(2, 5);
        CHECK.due("a tag goes before", Pages.text(page), "y|x-");
        page.tag(0, 5);
        page.tag(1, 5);
        CHECK.due("joined in one tag", Pages.text(page), "xy");
        page.tag(2, 6);
        CHECK.due("not joined over tags", Pages.text(page), "x-|y");
        page.tag(2, -1);
        CHECK.due("not joined to one without a tag", Pages.text(page), "x-|y");
        page.tag(0, 0);
        page.tag(1, 0);
        CHECK.due("nor from tag 0 to none", Pages.text(page), "x-|y");
        page.tag(2, 0);
        CHECK.due("joined in tag 0", Pages.text(page), "xy");
        page.tag(0, 100);
        page.tag(1, 100);
        page.tag(2, -1);
        CHECK.due("not from tag 100 to none", Pages.text(page), "x-|y");
        page.tag(2, 100);
        CHECK.due("joined in tag 100", Pages.text(page), "xy");
    }

    private static void longest() {
        TextOrder page = new TextOrder();
        page.map(0, 1, 'f', 'i');
        for (int i = 0; i < 200; i++) {
            page.sign(1, i * 10L, 0, 5, 10);
        }
        CHECK.due("length() of the longest text", page.length(), 599);
        CHECK.due("its last letter", page.letter(598), 'i');
        CHECK.due("whose it is", page.from(598), 199);
        CHECK.dueThrow("letter(599)", IndexOutOfBoundsException.class, () -> page.letter(599));
        CHECK.dueThrow("from(599)", IndexOutOfBoundsException.class, () -> page.from(599));
        CHECK.due("its words", page.word(-1, 0), 200);
        page.find(10);
        CHECK.due("its spaces", page.find(0), 199);
        CHECK.due("its last space", page.found(198), 596);
    }

    /** Two letters of each of 200 signs in one line, and of each in a line of its own. */
    private static void longestWithoutSpaces() {
        TextOrder row = new TextOrder();
        TextOrder lines = new TextOrder();
        row.map(3, 1, 'f', 65535);
        lines.map(3, 1, 'f', '-');
        for (int i = 0; i < 200; i++) {
            row.sign(1, i * 5L, 0, 5, 10);
            lines.sign(1, 0, i * -12L, 5, 10);
        }
        CHECK.due("length() of one line", row.length(), 400);
        CHECK.due("its last letter", row.letter(399), 65535);
        CHECK.dueThrow("letter(400)", IndexOutOfBoundsException.class, () -> row.letter(400));
        CHECK.due("length() of 200 lines, 199 hyphens joined", lines.length(), 201);
        CHECK.due("from(199)", lines.from(199), 199);
        CHECK.due("the last hyphen stays", lines.letter(200), '-');
        CHECK.dueThrow("from(201)", IndexOutOfBoundsException.class, () -> lines.from(201));
    }
}
