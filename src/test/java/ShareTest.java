/** Promise 13: share. */
public final class ShareTest {
    private static final Check CHECK = new Check("ShareTest");

    public static void main(String[] args) {
        cutOff();
        noWidth();
        wrapsRound();
        changesNothing();
        CHECK.end();
    }

    private static void due(long gap, long width, long want) {
        CHECK.due("share(" + gap + ", " + width + ")", new TextOrder().share(gap, width), want);
    }

    /** "1000 g / w, cut off": towards 0 on both sides of it. */
    private static void cutOff() {
        due(1, 4, 250);
        due(0, 5, 0);
        due(0, -5, 0);
        due(2, 3, 666);
        due(-2, 3, -666);
        due(2, -3, -666);
        due(-2, -3, 666);
        due(1, 1000, 1);
        due(1, 1001, 0);
        due(-1, 1001, 0);
        due(1, -1001, 0);
        due(249999, 1000000, 249);
        due(250000, 1000000, 250);
    }

    /** "ArithmeticException when the width is 0", whatever the gap is. */
    private static void noWidth() {
        TextOrder page = new TextOrder();
        for (long gap : new long[] {0, 1, -1, Long.MAX_VALUE, Long.MIN_VALUE}) {
            CHECK.dueThrow("share(" + gap + ", 0)", ArithmeticException.class, () -> page.share(gap, 0));
        }
        CHECK.due("share(1, 1) behind them", page.share(1, 1), 1000);
        due(1, -1, -1000);
        due(1, 1L << 32, 0);
        due(1L << 32, 1L << 32, 1000);
    }

    /** "As longs": the last gaps whose thousandfold is a long, and the first that wrap round. */
    private static void wrapsRound() {
        due(9223372036854775L, 1, 9223372036854775000L);
        due(9223372036854776L, 1, -9223372036854775616L);
        due(-9223372036854775L, 1, -9223372036854775000L);
        due(-9223372036854776L, 1, 9223372036854775616L);
        due(9223372036854775L, Long.MAX_VALUE, 0);
        due(9223372036854776L, 9223372036854775616L, -1);
        due(Long.MAX_VALUE, 1, -1000);
        due(Long.MAX_VALUE, Long.MAX_VALUE, 0);
        due(Long.MIN_VALUE, 1, 0);
        due(Long.MIN_VALUE, -1, 0);
        due(1L << 60, 1, Long.MIN_VALUE);
        due(1L << 60, -1, Long.MIN_VALUE);
        due(1L << 60, Long.MIN_VALUE, 1);
        due(1, Long.MIN_VALUE, 0);
    }

    private static void changesNothing() {
        TextOrder page = Pages.lettered();
        Pages.row(page, "ab", 0, 0);
        page.share(5, 10);
        CHECK.dueThrow("share(5, 0)", ArithmeticException.class, () -> page.share(5, 0));
        CHECK.due("text behind them", Pages.text(page), "ab");
    }
}
