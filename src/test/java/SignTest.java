/** Promise 2: sign. */
public final class SignTest {
    private static final Check CHECK = new Check("SignTest");

    public static void main(String[] args) {
        numbersAndEdges();
        wrongSigns();
        mostSigns();
        CHECK.end();
    }

    private static void numbersAndEdges() {
        TextOrder page = new TextOrder();
        CHECK.due("sign, all least", page.sign(0, -1000000, -1000000, 0, 1), 0);
        CHECK.due("sign, all most", page.sign(255, 1000000, 1000000, 1000000, 1000), 1);
        CHECK.due("line of the upper one", page.line(1), 0);
        CHECK.due("line of the lower one", page.line(0), 1);
        CHECK.due("owners", Pages.owners(page), "0,-1,1");
    }

    private static void wrong(TextOrder page, int code, long x, long y, long width, int size) {
        CHECK.dueThrow("sign(" + code + ", " + x + ", " + y + ", " + width + ", " + size + ")",
                IllegalArgumentException.class, () -> page.sign(code, x, y, width, size));
    }

    private static void wrongSigns() {
        TextOrder page = new TextOrder();
        wrong(page, -1, 0, 0, 5, 10);
        wrong(page, 256, 0, 0, 5, 10);
        wrong(page, Integer.MIN_VALUE, 0, 0, 5, 10);
        wrong(page, 0, -1000001, 0, 5, 10);
        wrong(page, 0, 1000001, 0, 5, 10);
        wrong(page, 0, Long.MIN_VALUE, 0, 5, 10);
        wrong(page, 0, 1L << 32, 0, 5, 10);
        wrong(page, 0, 0, -1000001, 5, 10);
        wrong(page, 0, 0, 1000001, 5, 10);
        wrong(page, 0, 0, Long.MAX_VALUE, 5, 10);
        wrong(page, 0, 0, 0, -1, 10);
        wrong(page, 0, 0, 0, 1000001, 10);
        wrong(page, 0, 0, 0, 1L << 32, 10);
        wrong(page, 0, 0, 0, 5, 0);
        wrong(page, 0, 0, 0, 5, -1);
        wrong(page, 0, 0, 0, 5, 1001);
        CHECK.due("length() behind wrong signs", page.length(), 0);
        CHECK.due("the first right sign", page.sign(0, 0, 0, 5, 10), 0);
    }

    private static void mostSigns() {
        TextOrder page = Pages.lettered();
        for (int i = 0; i < 200; i++) {
            CHECK.due("sign " + i, page.sign('a' + i % 26, i * 5L, 0, 5, 10), i);
        }
        CHECK.dueThrow("sign 200", UnsupportedOperationException.class, () -> page.sign('a', 0, 0, 5, 10));
        wrong(page, 256, 0, 0, 5, 10);
        wrong(page, 0, 0, 0, 5, 0);
        CHECK.due("length() of 200 signs", page.length(), 200);
        CHECK.due("from(199)", page.from(199), 199);
    }
}
