/** Promises 15 and 16: find and found. */
public final class FindTest {
    private static final Check CHECK = new Check("FindTest");

    public static void main(String[] args) {
        places();
        noLetters();
        blanks();
        overLines();
        asItWas();
        mostSought();
        soughtAsLongAsTheText();
        mostPlaces();
        leastAndGreatestLetters();
        wrongLetters();
        noSuchPlace();
        CHECK.end();
    }

    private static String seek(TextOrder page, String sought) {
        for (int i = 0; i < sought.length(); i++) {
            CHECK.due("find(" + sought.charAt(i) + ")", page.find(sought.charAt(i)), i + 1);
        }
        int count = page.find(0);
        StringBuilder found = new StringBuilder();
        for (int i = 0; i < count; i++) {
            found.append(i == 0 ? "" : ",").append(page.found(i));
        }
        wrongPlace(page, count);
        wrongPlace(page, -1);
        return found.toString();
    }

    private static void wrongPlace(TextOrder page, int i) {
        CHECK.dueThrow("found(" + i + ")", IndexOutOfBoundsException.class, () -> page.found(i));
    }

    private static void places() {
        TextOrder page = Pages.lettered();
        CHECK.due("in no text", seek(page, "a"), "");
        Pages.row(page, "aaaba", 0, 0);
        CHECK.due("one letter", seek(page, "a"), "0,1,2,4");
        CHECK.due("places that overlap", seek(page, "aa"), "0,1");
        CHECK.due("the whole text", seek(page, "aaaba"), "0");
        CHECK.due("more than the text", seek(page, "aaabaa"), "");
        CHECK.due("at the end", seek(page, "ba"), "3");
        CHECK.due("nowhere", seek(page, "bb"), "");
        CHECK.due("other letters", seek(page, "A"), "");
    }

    /** "None, if there were no letters". */
    private static void noLetters() {
        TextOrder page = Pages.lettered();
        CHECK.due("no letters in no text", page.find(0), 0);
        wrongPlace(page, 0);
        Pages.row(page, "aaaba", 0, 0);
        CHECK.due("no letters in a text", page.find(0), 0);
        wrongPlace(page, 0);
        page.find('b');
        CHECK.due("one letter", page.find(0), 1);
        CHECK.due("found(0)", page.found(0), 3);
        CHECK.due("they are gone: none are sought", page.find(0), 0);
        wrongPlace(page, 0);
        CHECK.due("the next letter is the first", page.find('a'), 1);
        CHECK.due("find(0)", page.find(0), 4);
    }

    /** "Where 10 is as 32 (of those that are sought, too)". */
    private static void blanks() {
        TextOrder page = Pages.lettered();
        Pages.row(page, "ab", 0, 0);
        Pages.row(page, "ab", 12, 0);
        Pages.row(page, "ab", 0, -30);
        CHECK.due("text", Pages.text(page), "ab_ab|ab");
        CHECK.due("32 is sought", seek(page, "b a"), "1,4");
        CHECK.due("10 is sought", seek(page, "b\na"), "1,4");
        CHECK.due("32 alone", seek(page, " "), "2,5");
        CHECK.due("10 alone", seek(page, "\n"), "2,5");
        TextOrder signs = Pages.lettered();
        Pages.row(signs, " \n\t\u000b\u001f! ", 0, 0);
        CHECK.due("32 in signs' letters", seek(signs, " "), "0,1,6");
        CHECK.due("10 in signs' letters", seek(signs, "\n"), "0,1,6");
        CHECK.due("one of each", seek(signs, "\n "), "0");
        CHECK.due("9 is no blank", seek(signs, "\t"), "2");
        CHECK.due("nor is 33", seek(signs, "!"), "5");
    }

    private static void overLines() {
        TextOrder page = Pages.lettered();
        Pages.row(page, "ab-", 0, 0);
        Pages.row(page, "cd-", 0, -12);
        Pages.row(page, "Ef", 0, -24);
        CHECK.due("text", Pages.text(page), "abcd-_Ef");
        CHECK.due("over a joined hyphen", seek(page, "bc"), "1");
        CHECK.due("without the hyphen that is gone", seek(page, "b-"), "");
        CHECK.due("with the one that stays", seek(page, "d- E"), "3");
    }

    private static void asItWas() {
        TextOrder page = Pages.lettered();
        Pages.row(page, "ab", 0, 0);
        page.find('b');
        CHECK.due("find(0)", page.find(0), 1);
        Pages.row(page, "xy", -10, 0);
        CHECK.due("found(0) as the text was then", page.found(0), 1);
        page.map(0, 'b', 'q', 0);
        CHECK.due("found(0) when no such letter is in the text", page.found(0), 1);
        page.map(0, 'b', 'b', 0);
        page.find('b');
        CHECK.due("found(0) while letters are sought", page.found(0), 1);
        CHECK.due("find(0) as the text is", page.find(0), 1);
        CHECK.due("found(0) as the text is", page.found(0), 3);
        page.find('y');
        Pages.row(page, "y", 10, 0);
        CHECK.due("letters sought before the text changed", page.find(0), 2);
        CHECK.due("found(1)", page.found(1), 4);
        page.find('q');
        CHECK.due("nothing found", page.find(0), 0);
        wrongPlace(page, 0);
    }

    /** "UnsupportedOperationException when there are 20"; of a wrong letter IllegalArgumentException comes first. */
    private static void mostSought() {
        TextOrder page = Pages.lettered();
        for (int i = 0; i < 21; i++) {
            page.sign('a', i * 5L, 0, 5, 10);
        }
        for (int round = 0; round < 2; round++) {
            for (int i = 1; i <= 20; i++) {
                CHECK.due("letter " + i + " sought", page.find('a'), i);
            }
            CHECK.dueThrow("letter 21", UnsupportedOperationException.class, () -> page.find('a'));
            CHECK.dueThrow("letter 21 again", UnsupportedOperationException.class, () -> page.find('b'));
            CHECK.dueThrow("a wrong letter 21", IllegalArgumentException.class, () -> page.find(65536));
            CHECK.dueThrow("another", IllegalArgumentException.class, () -> page.find(-1));
            CHECK.due("find(0) with 20", page.find(0), 2);
            CHECK.due("found(0)", page.found(0), 0);
            CHECK.due("found(1)", page.found(1), 1);
            wrongPlace(page, 2);
        }
        CHECK.due("they are gone", page.find('a'), 1);
        CHECK.due("find(0) with one", page.find(0), 21);
    }

    private static void soughtAsLongAsTheText() {
        for (int length = 19; length <= 20; length++) {
            TextOrder page = Pages.lettered();
            Pages.row(page, "aaaaaaaaaaaaaaaaaaab".substring(20 - length), 0, 0);
            for (int i = 0; i < 19; i++) {
                page.find('a');
            }
            page.find('b');
            CHECK.due("20 letters in a text of " + length, page.find(0), length - 19);
        }
    }

    private static void mostPlaces() {
        TextOrder page = new TextOrder();
        page.map(0, 1, ' ', '\n');
        for (int i = 0; i < 200; i++) {
            page.sign(1, i * 10L, 0, 5, 10);
        }
        page.find(' ');
        CHECK.due("a text of blanks alone", page.find(0), 599);
        CHECK.due("found(0)", page.found(0), 0);
        CHECK.due("found(598)", page.found(598), 598);
        wrongPlace(page, 599);
        wrongPlace(page, 600);
        for (int i = 0; i < 20; i++) {
            page.find(i % 2 == 0 ? 10 : 32);
        }
        CHECK.due("20 blanks", page.find(0), 580);
        CHECK.due("found(579)", page.found(579), 579);
        wrongPlace(page, 580);
    }

    /** "A letter 1 .. 65535". */
    private static void leastAndGreatestLetters() {
        TextOrder page = new TextOrder();
        page.map(0, 1, 65535, 1);
        page.sign(1, 0, 0, 5, 10);
        page.sign(2, 5, 0, 5, 10);
        CHECK.due("the greatest letter", page.find(65535), 1);
        CHECK.due("the least letter", page.find(1), 2);
        CHECK.due("the letter of what no map tells", page.find(65533), 3);
        CHECK.due("find(0)", page.find(0), 1);
        CHECK.due("found(0)", page.found(0), 0);
        page.find(1);
        CHECK.due("the least letter alone", page.find(0), 1);
        CHECK.due("its place", page.found(0), 1);
    }

    private static void wrongLetters() {
        TextOrder page = Pages.lettered();
        Pages.row(page, "ab", 0, 0);
        page.find('b');
        page.find(0);
        CHECK.due("one is sought", page.find('a'), 1);
        for (int c : new int[] {-1, 65536, 65536 + 'a', Integer.MIN_VALUE, Integer.MAX_VALUE}) {
            CHECK.dueThrow("find(" + c + ")", IllegalArgumentException.class, () -> page.find(c));
        }
        CHECK.due("found(0) behind them", page.found(0), 1);
        CHECK.due("what is sought behind them", page.find('b'), 2);
        CHECK.due("find(0) behind them", page.find(0), 1);
        CHECK.due("found(0) then", page.found(0), 0);
    }

    private static void noSuchPlace() {
        TextOrder page = Pages.lettered();
        Pages.row(page, "aba", 0, 0);
        wrongPlace(page, 0);
        page.find('a');
        wrongPlace(page, 0);
        page.find(0);
        for (int i : new int[] {-1, 2, 3, 599, Integer.MIN_VALUE, Integer.MAX_VALUE}) {
            wrongPlace(page, i);
        }
        CHECK.due("found(0)", page.found(0), 0);
        CHECK.due("found(1)", page.found(1), 2);
    }
}
