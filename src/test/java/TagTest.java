import java.util.NoSuchElementException;

/** Promise 5: tag, and the reading order by tags. */
public final class TagTest {
    private static final Check CHECK = new Check("TagTest");

    public static void main(String[] args) {
        answers();
        wrongTags();
        orders();
        nextInSegment();
        CHECK.end();
    }

    private static void answers() {
        TextOrder page = Pages.lettered();
        Pages.row(page, "ab", 0, 0);
        CHECK.due("tag(0, 0)", page.tag(0, 0), -1);
        CHECK.due("tag(0, 100)", page.tag(0, 100), 0);
        CHECK.due("tag(0, -1)", page.tag(0, -1), 100);
        CHECK.due("tag(0, -1) again", page.tag(0, -1), -1);
        CHECK.due("tag(1, -1)", page.tag(1, -1), -1);
    }

    private static void wrongTags() {
        TextOrder page = Pages.lettered();
        CHECK.dueThrow("tag(0, 0) without signs", NoSuchElementException.class, () -> page.tag(0, 0));
        Pages.row(page, "ab", 0, 0);
        page.tag(1, 3);
        CHECK.dueThrow("tag(2, 0)", NoSuchElementException.class, () -> page.tag(2, 0));
        CHECK.dueThrow("tag(-1, 101)", NoSuchElementException.class, () -> page.tag(-1, 101));
        CHECK.dueThrow("tag(1, 101)", IllegalArgumentException.class, () -> page.tag(1, 101));
        CHECK.dueThrow("tag(1, -2)", IllegalArgumentException.class, () -> page.tag(1, -2));
        CHECK.due("tag(1, -1) behind wrong tags", page.tag(1, -1), 3);
    }

    private static void orders() {
        TextOrder page = Pages.lettered();
        Pages.row(page, "ab", 0, 0);
        Pages.row(page, "cd", 0, -12);
        Pages.row(page, "ef", 0, -24);
        CHECK.due("without tags", Pages.text(page), "ab_cd_ef");
        page.tag(4, 7);
        CHECK.due("a tag goes first", Pages.text(page), "e|ab_cd_f");
        page.tag(2, 0);
        CHECK.due("tag 0 before tag 7", Pages.text(page), "c|e|ab_d_f");
        page.tag(2, 100);
        CHECK.due("tag 100 behind tag 7", Pages.text(page), "e|c|ab_d_f");
        page.tag(2, 7);
        CHECK.due("of one tag by lines", Pages.text(page), "c_e|ab_d_f");
        page.tag(3, 7);
        CHECK.due("of one tag, side by side", Pages.text(page), "cd_e|ab_f");
    }

    private static void nextInSegment() {
        TextOrder page = Pages.lettered();
        Pages.row(page, "abc", 0, 0);
        page.tag(0, 0);
        CHECK.due("the next in the segment follows whatever its tag", Pages.text(page), "abc");
        page.tag(1, 1);
        CHECK.due("by tags as by places", Pages.text(page), "abc");
        page.tag(0, 2);
        CHECK.due("not next in the segment", Pages.text(page), "b|a|c");
    }
}
