import java.util.NoSuchElementException;

/** Promise 5: tag, and the reading order by tags. */
public final class TagTest {
    private static final Check CHECK = new Check("TagTest");

    public static void main(String[] args) {
        answers();
        noSuchSign();
        wrongTags();
        lastSign();
        orders();
        leastAndGreatestTags();
        tagsOverBlocks();
        nextInSegment();
        tagOfADouble();
        CHECK.end();
    }

    private static void answers() {
        TextOrder page = Pages.lettered();
        Pages.row(page, "ab", 0, 0);
        CHECK.due("tag(0, 0)", page.tag(0, 0), -1);
        CHECK.due("tag(0, 100)", page.tag(0, 100), 0);
        CHECK.due("tag(0, -1)", page.tag(0, -1), 100);
        CHECK.due("tag(0, -1) again", page.tag(0, -1), -1);
        CHECK.due("tag(1, -1)", page.tag(1, -1), -1);
    }

    /** NoSuchElementException, also where the tag is wrong: it is named first. */
    private static void noSuchSign() {
        TextOrder page = Pages.lettered();
        CHECK.dueThrow("tag(0, 0) without signs", NoSuchElementException.class, () -> page.tag(0, 0));
        CHECK.dueThrow("tag(0, 101) without signs", NoSuchElementException.class, () -> page.tag(0, 101));
        Pages.row(page, "ab", 0, 0);
        for (int sign : new int[] {-1, 2, 200, 256, Integer.MIN_VALUE, Integer.MAX_VALUE}) {
            for (int tag : new int[] {-1, 0, 100, 101, -2}) {
                CHECK.dueThrow("tag(" + sign + ", " + tag + ")", NoSuchElementException.class,
                        () -> page.tag(sign, tag));
            }
        }
        CHECK.due("text behind them", Pages.text(page), "ab");
        CHECK.due("the next sign has no tag", page.sign('c', 10, 0, 5, 10), 2);
        CHECK.due("tag(2, -1)", page.tag(2, -1), -1);
    }

    /** "A tag 0 .. 100, or (-1) none". */
    private static void wrongTags() {
        TextOrder page = Pages.lettered();
        Pages.row(page, "ab", 0, 0);
        page.tag(1, 3);
        for (int tag : new int[] {-2, 101, 256, Integer.MIN_VALUE, Integer.MAX_VALUE}) {
            CHECK.dueThrow("tag(1, " + tag + ")", IllegalArgumentException.class, () -> page.tag(1, tag));
            CHECK.dueThrow("tag(0, " + tag + ")", IllegalArgumentException.class, () -> page.tag(0, tag));
        }
        CHECK.due("text behind wrong tags", Pages.text(page), "b|a");
        CHECK.due("tag(1, -1) behind wrong tags", page.tag(1, -1), 3);
        CHECK.due("tag(0, -1) behind wrong tags", page.tag(0, -1), -1);
    }

    private static void lastSign() {
        TextOrder page = new TextOrder();
        for (int i = 0; i < 200; i++) {
            page.sign(7, i * 5L, 0, 5, 10);
        }
        CHECK.due("tag(199, 100) of 200", page.tag(199, 100), -1);
        CHECK.dueThrow("tag(200, 100) of 200", NoSuchElementException.class, () -> page.tag(200, 100));
        CHECK.due("the last sign goes first", page.from(0), 199);
        CHECK.due("10 comes behind it", page.letter(1), 10);
        CHECK.due("tag(199, -1)", page.tag(199, -1), 100);
        CHECK.due("it goes last again", page.from(199), 199);
        for (int i = 0; i < 200; i++) {
            page.tag(i, i % 101);
        }
        CHECK.due("all signs have tags: the first", page.from(0), 0);
        CHECK.due("10 comes between signs of one tag that are not next", page.letter(1), 10);
        CHECK.due("the second of tag 0", page.from(2), 101);
        CHECK.due("length(), as only 99 and 100 are next to each other", page.length(), 398);
        CHECK.due("the only one of tag 99", page.from(396), 99);
        CHECK.due("the only one of tag 100", page.from(397), 100);
    }

    private static void orders() {
        TextOrder page = Pages.lettered();
        Pages.row(page, "ab", 0, 0);
        Pages.row(page, "cd", 0, -12);
        Pages.row(page, "ef", 0, -24);
        CHECK.due("without tags", Pages.text(page), "ab_cd_ef");
        page.tag(4, 7);
        CHECK.due("a tag goes first", Pages.text(page), "e|ab_cd_f");
        page.tag(2, 0);
        CHECK.due("tag 0 before tag 7", Pages.text(page), "c|e|ab_d_f");
        page.tag(2, 100);
        CHECK.due("tag 100 behind tag 7", Pages.text(page), "e|c|ab_d_f");
        page.tag(2, 7);
        CHECK.due("of one tag by lines", Pages.text(page), "c_e|ab_d_f");
        page.tag(3, 7);
        CHECK.due("of one tag, side by side", Pages.text(page), "cd_e|ab_f");
    }

    /** "Those with a TAG before all others, by tags (0 the first)": tags 0, 1, 99, 100 and none. */
    private static void leastAndGreatestTags() {
        TextOrder page = Pages.lettered();
        for (int i = 0; i < 5; i++) {
            page.sign('a' + i, 0, i * -12L, 5, 10);
        }
        CHECK.due("without tags", Pages.text(page), "a_b_c_d_e");
        page.tag(4, 100);
        CHECK.due("tag 100 before none", Pages.text(page), "e|a_b_c_d");
        page.tag(3, 99);
        CHECK.due("tag 99 before 100", Pages.text(page), "d|e|a_b_c");
        page.tag(1, 0);
        CHECK.due("tag 0 before all", Pages.text(page), "b|d|e|a_c");
        page.tag(0, 1);
        CHECK.due("tag 1 behind tag 0", Pages.text(page), "b|a|d|e|c");
        page.tag(1, -1);
        CHECK.due("none behind all", Pages.text(page), "a|d|e|b_c");
    }

    private static void tagsOverBlocks() {
        TextOrder page = Pages.lettered();
        page.sign('a', 0, 0, 5, 10);
        page.sign('b', 0, -100, 5, 10);
        page.sign('c', 0, -112, 5, 10);
        page.sign('d', 0, -212, 5, 10);
        CHECK.due("blocks", Pages.blocks(page, 4), "0,1,1,2");
        page.tag(3, 5);
        page.tag(1, 5);
        page.tag(2, 5);
        CHECK.due("of one tag by blocks", Pages.text(page), "b_c|d|a");
        CHECK.due("tags change no blocks", Pages.blocks(page, 4), "0,1,1,2");
        CHECK.due("nor lines", Pages.lines(page, 4), "0,1,2,3");
    }

    private static void nextInSegment() {
        TextOrder page = Pages.lettered();
        Pages.row(page, "abc", 0, 0);
        page.tag(0, 0);
        CHECK.due("the next in the segment follows whatever its tag", Pages.text(page), "abc");
        page.tag(1, 1);
        CHECK.due("by tags as by places", Pages.text(page), "abc");
        page.tag(0, 2);
        CHECK.due("not next in the segment", Pages.text(page), "b|a|c");
        page.tag(0, -1);
        page.tag(2, 1);
        CHECK.due("two that are next, and one before them", Pages.text(page), "bc|a");
    }

    private static void tagOfADouble() {
        TextOrder page = Pages.lettered();
        page.sign('a', 0, 0, 5, 10);
        page.sign('b', 5, 0, 5, 10);
        page.sign('b', 5, 0, 5, 10);
        CHECK.due("tag(2, 4) of a double", page.tag(2, 4), -1);
        CHECK.due("it goes nowhere", Pages.text(page), "ab");
        CHECK.due("it is kept", page.tag(2, 4), 4);
        page.turn(1, true);
        CHECK.due("and counts when it is a double no more", Pages.owners(page), "2,-1,0,-1,1");
    }
}
