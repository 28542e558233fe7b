/** Promise 13: share. */
public final class ShareTest {
    public static void main(String[] args) {
        Check check = new Check("ShareTest");
        TextOrder page = new TextOrder();
        check.due("share(1, 4)", page.share(1, 4), 250);
        check.due("share(2, 3)", page.share(2, 3), 666);
        check.due("share(-2, 3)", page.share(-2, 3), -666);
        check.due("share(2, -3)", page.share(2, -3), -666);
        check.due("share(-2, -3)", page.share(-2, -3), 666);
        check.due("share(0, 5)", page.share(0, 5), 0);
        check.due("share(1, 1001)", page.share(1, 1001), 0);
        check.due("share beyond ints", page.share(9223372036854775L, 1), 9223372036854775000L);
        check.due("share of a great width", page.share(9223372036854775L, Long.MAX_VALUE), 0);
        check.due("share that wraps round", page.share(9223372036854776L, 1), -9223372036854775616L);
        check.due("share of the greatest long", page.share(Long.MAX_VALUE, 1), -1000);
        check.due("share of the least long", page.share(Long.MIN_VALUE, -1), 0);
        check.dueThrow("share(1, 0)", ArithmeticException.class, () -> page.share(1, 0));
        check.dueThrow("share(0, 0)", ArithmeticException.class, () -> page.share(0, 0));
        check.due("length()", page.length(), 0);
        check.end();
    }
}
