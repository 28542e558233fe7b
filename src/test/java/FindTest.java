/** Promises 15 and 16: find and found. */
public final class FindTest {
    private static final Check CHECK = new Check("FindTest");

    public static void main(String[] args) {
        places();
        blanks();
        asItWas();
        mostSought();
        wrongLetters();
        CHECK.end();
    }

    private static String seek(TextOrder page, String sought) {
        for (int i = 0; i < sought.length(); i++) {
            CHECK.due("find(" + sought.charAt(i) + ")", page.find(sought.charAt(i)), i + 1);
        }
        int count = page.find(0);
        StringBuilder found = new StringBuilder();
        for (int i = 0; i < count; i++) {
            found.append(i == 0 ? "" : ",").append(page.found(i));
        }
        CHECK.dueThrow("found(" + count + ")", IndexOutOfBoundsException.class, () -> page.found(count));
        CHECK.dueThrow("found(-1)", IndexOutOfBoundsException.class, () -> page.found(-1));
        return found.toString();
    }

    private static void places() {
        TextOrder page = Pages.lettered();
        CHECK.due("in no text", seek(page, "a"), "");
        Pages.row(page, "aaaba", 0, 0);
        CHECK.due("one letter", seek(page, "a"), "0,1,2,4");
        CHECK.due("places that overlap", seek(page, "aa"), "0,1");
        CHECK.due("the whole text", seek(page, "aaaba"), "0");
        CHECK.due("more than the text", seek(page, "aaabaa"), "");
        CHECK.due("at the end", seek(page, "ba"), "3");
        CHECK.due("nowhere", seek(page, "bb"), "");
        CHECK.due("no letters", seek(page, ""), "");
        page.find('b');
        page.find(0);
        CHECK.due("found(0)", page.found(0), 3);
        CHECK.due("find(0) without letters finds none", page.find(0), 0);
        CHECK.dueThrow("found(0) behind it", IndexOutOfBoundsException.class, () -> page.found(0));
    }

    private static void blanks() {
        TextOrder page = Pages.lettered();
        Pages.row(page, "ab", 0, 0);
        Pages.row(page, "ab", 12, 0);
        Pages.row(page, "ab", 0, -30);
        CHECK.due("text", Pages.text(page), "ab_ab|ab");
        CHECK.due("32 is sought", seek(page, "b a"), "1,4");
        CHECK.due("10 is sought", seek(page, "b\na"), "1,4");
        CHECK.due("alone", seek(page, "\n"), "2,5");
    }

    private static void asItWas() {
        TextOrder page = Pages.lettered();
        Pages.row(page, "ab", 0, 0);
        page.find('b');
        CHECK.due("find(0)", page.find(0), 1);
        Pages.row(page, "xy", -10, 0);
        CHECK.due("found(0) as the text was then", page.found(0), 1);
        page.find('b');
        CHECK.due("found(0) while letters are sought", page.found(0), 1);
        CHECK.due("find(0) as the text is", page.find(0), 1);
        CHECK.due("found(0) as the text is", page.found(0), 3);
        page.find('y');
        Pages.row(page, "y", 10, 0);
        CHECK.due("letters sought before the text changed", page.find(0), 2);
    }

    private static void mostSought() {
        TextOrder page = Pages.lettered();
        for (int i = 0; i < 21; i++) {
            page.sign('a', i * 5L, 0, 5, 10);
        }
        for (int i = 1; i <= 20; i++) {
            CHECK.due("letter " + i + " sought", page.find('a'), i);
        }
        CHECK.dueThrow("letter 21", UnsupportedOperationException.class, () -> page.find('a'));
        CHECK.dueThrow("a wrong letter 21", IllegalArgumentException.class, () -> page.find(65536));
        CHECK.due("find(0) with 20", page.find(0), 2);
        CHECK.due("found(1)", page.found(1), 1);
        CHECK.due("they are gone", page.find('a'), 1);
    }

    private static void wrongLetters() {
        TextOrder page = new TextOrder();
        page.map(0, 1, 65535, 1);
        page.sign(1, 0, 0, 5, 10);
        CHECK.due("the greatest letter", page.find(65535), 1);
        CHECK.dueThrow("find(65536)", IllegalArgumentException.class, () -> page.find(65536));
        CHECK.dueThrow("find(-1)", IllegalArgumentException.class, () -> page.find(-1));
        CHECK.dueThrow("find(least)", IllegalArgumentException.class, () -> page.find(Integer.MIN_VALUE));
        CHECK.due("the least letter", page.find(1), 2);
        CHECK.due("find(0)", page.find(0), 1);
        CHECK.due("found(0)", page.found(0), 0);
    }
}
