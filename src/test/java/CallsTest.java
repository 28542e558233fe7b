/** "An object is used for at most 512 calls": up to the 512th each is answered like all others. */
public final class CallsTest {
    private static final Check CHECK = new Check("CallsTest");
    private static final int MOST_CALLS = 512;
    private static final int MOST_SIGNS = 200;

    public static void main(String[] args) {
        signsUntilTheLast();
        changesUntilTheLast();
        blocksUntilTheLast();
        mapsUntilTheLast();
        searchesUntilTheLast();
        CHECK.end();
    }

    private static void signsUntilTheLast() {
        TextOrder page = new TextOrder();
        for (int i = 0; i < MOST_SIGNS; i++) {
            CHECK.due("sign " + i, page.sign(i, i * 5L, 0, 5, 10), i);
        }
        for (int call = MOST_SIGNS + 1; call < MOST_CALLS; call++) {
            CHECK.dueThrow("sign 200, call " + call, UnsupportedOperationException.class,
                    () -> page.sign(7, 0, 50, 5, 10));
        }
        CHECK.due("length(), call 512", page.length(), MOST_SIGNS);
    }

    /** All 200 signs in a line, and the one that had a tag goes back as the next one gets it. */
    private static void changesUntilTheLast() {
        TextOrder page = new TextOrder();
        for (int i = 0; i < MOST_SIGNS; i++) {
            page.sign(7, i * 5L, 0, 5, 10);
        }
        int sign = 0;
        for (int call = MOST_SIGNS; call + 3 <= MOST_CALLS; call += 3) {
            sign = (sign + 7) % MOST_SIGNS;
            CHECK.due("tag(" + sign + ", 0)", page.tag(sign, 0), -1);
            CHECK.due("from(0) behind call " + (call + 1), page.from(0), sign);
            CHECK.due("tag(" + sign + ", -1), call " + (call + 3), page.tag(sign, -1), 0);
        }
    }

    /**
     * Ten columns of three lines, of which one sign after the other is turned, asked for, and turned back; a column
     * without its middle line is two blocks.
     */
    private static void blocksUntilTheLast() {
        TextOrder page = new TextOrder();
        for (int i = 0; i < 30; i++) {
            page.sign(i, i / 3 * 100L, i % 3 * -12L, 5, 10);
        }
        int sign = 0;
        for (int call = 30; call + 4 <= MOST_CALLS; call += 4) {
            sign = (sign + 11) % 30;
            CHECK.due("turn(" + sign + ", true)", page.turn(sign, true), 0);
            CHECK.due("its block behind call " + (call + 1), page.block(sign), sign % 3 == 1 ? 11 : 10);
            CHECK.due("turn(" + sign + ", false)", page.turn(sign, false), 1);
            CHECK.due("its block, call " + (call + 4), page.block(sign), sign / 3);
        }
    }

    private static void mapsUntilTheLast() {
        TextOrder page = new TextOrder();
        page.sign(255, 0, 0, 5, 10);
        for (int code = 0; code < 256; code++) {
            CHECK.due("map(3, " + code + ", ..)", page.map(3, code, code + 1, 65535), 0);
        }
        for (int code = 0; code < 254; code++) {
            CHECK.due("map(3, " + code + ", 0, 0)", page.map(3, code, 0, 0), 2);
        }
        CHECK.due("letter(1), call 512", page.letter(1), 65535);
    }

    private static void searchesUntilTheLast() {
        TextOrder page = new TextOrder();
        for (int i = 0; i < 20; i++) {
            page.sign(7, i * 5L, 0, 5, 10);
        }
        int calls = 20;
        for (int round = 0; round < 23; round++) {
            for (int i = 1; i <= 20; i++) {
                CHECK.due("letter " + i + " sought in round " + round, page.find(65533), i);
            }
            CHECK.due("find(0) in round " + round, page.find(0), 1);
            calls += 21;
        }
        for (int i = 1; calls < MOST_CALLS - 1; calls++, i++) {
            CHECK.due("letter " + i + " sought at last", page.find(65533), i);
        }
        CHECK.due("found(0), call 512", page.found(0), 0);
    }
}
