import java.util.NoSuchElementException;

/** Promise 10: block. */
public final class BlockTest {
    private static final Check CHECK = new Check("BlockTest");

    public static void main(String[] args) {
        wrongSigns();
        acrossEdges();
        downEdges();
        widestFirst();
        overlaps();
        segmentsOfOneBlock();
        turnedBlocks();
        deepCuts();
        CHECK.end();
    }

    private static void wrongSigns() {
        TextOrder page = Pages.lettered();
        page.sign('a', 0, 0, 5, 10);
        page.sign('a', 0, 0, 5, 10);
        CHECK.dueThrow("block(2)", NoSuchElementException.class, () -> page.block(2));
        CHECK.dueThrow("block(-1)", NoSuchElementException.class, () -> page.block(-1));
        CHECK.due("a double has none", Pages.blocks(page, 2), "0,-1");
    }

    private static void acrossEdges() {
        TextOrder near = Pages.lettered();
        near.sign('a', 0, 0, 5, 10);
        near.sign('b', 24, -6, 5, 10);
        CHECK.due("a gap below twice the size", Pages.blocks(near, 2), "0,0");
        CHECK.due("its text", Pages.text(near), "a_b");
        TextOrder far = Pages.lettered();
        far.sign('a', 0, -6, 5, 10);
        far.sign('b', 25, 0, 5, 10);
        CHECK.due("a gap of twice the size", Pages.blocks(far, 2), "0,1");
        CHECK.due("its text", Pages.text(far), "a|b");
        far.sign('c', 5, -6, 0, 11);
        CHECK.due("the greatest size of all signs counts", Pages.blocks(far, 3), "0,0,0");
    }

    private static void downEdges() {
        TextOrder near = Pages.lettered();
        near.sign('a', 0, 0, 5, 10);
        near.sign('b', 0, -19, 5, 10);
        CHECK.due("a gap below the size", Pages.blocks(near, 2), "0,0");
        TextOrder far = Pages.lettered();
        far.sign('a', 0, -20, 5, 10);
        far.sign('b', 0, 0, 5, 10);
        CHECK.due("a gap of the size", Pages.blocks(far, 2), "1,0");
        far.sign('c', 5, -1, 5, 9);
        CHECK.due("the least v is the bottom", Pages.blocks(far, 3), "0,0,0");
        TextOrder tall = Pages.lettered();
        tall.sign('a', 0, 0, 5, 10);
        tall.sign('b', 0, -31, 5, 10);
        tall.sign('c', 5, -31, 5, 15);
        CHECK.due("the greatest v and size is the top", Pages.blocks(tall, 3), "0,1,1");
        tall.sign('d', 10, -31, 5, 16);
        CHECK.due("the greatest size grows with it", Pages.blocks(tall, 4), "0,0,0,0");
    }

    /** Two columns over a broad foot: the foot is cut off first, then the columns. */
    private static void widestFirst() {
        TextOrder page = Pages.lettered();
        page.sign('a', 0, 0, 10, 10);
        page.sign('b', 40, 0, 10, 10);
        page.sign('c', 0, -12, 10, 10);
        page.sign('d', 40, -12, 10, 10);
        CHECK.due("columns", Pages.text(page), "a_c|b_d");
        page.sign('e', 0, -32, 50, 10);
        CHECK.due("columns over a foot", Pages.text(page), "a_c|b_d|e");
        CHECK.due("their blocks", Pages.blocks(page, 5), "0,1,0,1,2");
        TextOrder three = Pages.lettered();
        three.sign('a', 0, -30, 10, 10);
        three.sign('b', 40, 0, 10, 10);
        three.sign('c', 80, -30, 10, 10);
        CHECK.due("of gaps as wide the first", Pages.text(three), "a|b|c");
        TextOrder wide = Pages.lettered();
        wide.sign('a', 0, -30, 10, 10);
        wide.sign('b', 30, 0, 10, 10);
        wide.sign('c', 80, -30, 10, 10);
        wide.sign('d', 85, -45, 10, 20);
        CHECK.due("the widest gap is wide enough, then, of lesser signs, the other", Pages.blocks(wide, 4), "0,1,2,2");
    }

    private static void overlaps() {
        TextOrder page = Pages.lettered();
        page.sign('a', 0, 0, 60, 10);
        page.sign('b', 5, -12, 5, 10);
        page.sign('c', 40, -24, 5, 10);
        CHECK.due("a gap is beyond all rights before", Pages.blocks(page, 3), "0,0,0");
        TextOrder tall = Pages.lettered();
        tall.sign('a', 0, 0, 5, 60);
        tall.sign('b', 60, 12, 5, 10);
        tall.sign('c', 60, 34, 5, 10);
        CHECK.due("or below all bottoms before", Pages.text(tall), "c_b_a");
        TextOrder left = Pages.lettered();
        left.sign('a', -1000, 0, 10, 10);
        left.sign('b', -900, 0, 50, 10);
        left.sign('c', -890, -12, 10, 10);
        left.sign('d', -895, -24, 10, 10);
        CHECK.due("what overlaps behind a gap stays together", Pages.blocks(left, 4), "0,1,1,1");
        TextOrder low = Pages.lettered();
        low.sign('a', 0, 1000, 10, 10);
        low.sign('b', 0, 900, 10, 10);
        low.sign('c', 5, 888, 10, 10);
        CHECK.due("what overlaps below a gap stays together", Pages.blocks(low, 3), "0,1,1");
    }

    private static void segmentsOfOneBlock() {
        TextOrder page = Pages.lettered();
        page.sign('b', 40, 0, 5, 10);
        page.sign('a', 0, 2, 5, 10);
        page.sign('d', 40, -12, 5, 10);
        page.sign('c', 0, -10, 5, 10);
        page.sign('e', 0, -24, 45, 10);
        CHECK.due("by lines, then from left to right", Pages.text(page), "a_b_c_d_e");
        CHECK.due("one block", Pages.blocks(page, 5), "0,0,0,0,0");
    }

    private static void turnedBlocks() {
        TextOrder page = Pages.lettered();
        page.sign('a', 0, 0, 5, 10);
        page.sign('b', 0, 0, 5, 10);
        page.sign('c', 0, 100, 5, 10);
        page.turn(1, true);
        page.turn(2, true);
        CHECK.due("turned ones come last", Pages.blocks(page, 3), "0,1,2");
        page.turn(0, true);
        CHECK.due("turned ones alone", Pages.blocks(page, 3), "0,0,1");
        CHECK.due("their text", Pages.text(page), "ab|c");
    }

    /** Gaps that become narrower from left to right part one segment at a time, 199 times. */
    private static void deepCuts() {
        TextOrder right = Pages.lettered();
        TextOrder left = Pages.lettered();
        TextOrder down = Pages.lettered();
        long at = 0;
        for (int i = 0; i < 200; i++) {
            right.sign('a', at, 0, 0, 1);
            left.sign('a', -at, 0, 0, 1);
            down.sign('a', 0, -at, 0, 1);
            at += 500 - i;
        }
        CHECK.due("the last block to the right", right.block(199), 199);
        CHECK.due("the first block to the left", left.block(199), 0);
        CHECK.due("the last block to the left", left.block(0), 199);
        CHECK.due("the last block downward", down.block(199), 199);
        CHECK.due("its line", down.line(199), 199);
        CHECK.due("length()", right.length(), 399);
    }
}
