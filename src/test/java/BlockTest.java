import java.util.NoSuchElementException;

/** Promise 10: block. */
public final class BlockTest {
    private static final Check CHECK = new Check("BlockTest");

    public static void main(String[] args) {
        noSuchSign();
        acrossEdges();
        downEdges();
        leastAndGreatestSizes();
        noGapAtAll();
        widestFirst();
        firstOfTheWidest();
        acrossBeforeDown();
        overlaps();
        edgesOfSegments();
        overTheMiddle();
        sizesOfThePart();
        segmentsThatAreGone();
        segmentsOfOneBlock();
        turnedBlocks();
        turnedEdges();
        deepCuts();
        farthestBlocks();
        CHECK.end();
    }

    private static void noSuchSign() {
        TextOrder page = Pages.lettered();
        CHECK.dueThrow("block(0) without signs", NoSuchElementException.class, () -> page.block(0));
        page.sign('a', 0, 0, 5, 10);
        page.sign('a', 0, 0, 5, 10);
        for (int sign : new int[] {-1, 2, 200, Integer.MIN_VALUE, Integer.MAX_VALUE}) {
            CHECK.dueThrow("block(" + sign + ")", NoSuchElementException.class, () -> page.block(sign));
        }
        CHECK.due("a double has none", Pages.blocks(page, 2), "0,-1");
    }

    private static void acrossEdges() {
        TextOrder near = Pages.lettered();
        near.sign('a', 0, 0, 5, 10);
        near.sign('b', 24, -6, 5, 10);
        CHECK.due("a gap below twice the size", Pages.blocks(near, 2), "0,0");
        CHECK.due("its text", Pages.text(near), "a_b");
        TextOrder far = Pages.lettered();
        far.sign('a', 0, -6, 5, 10);
        far.sign('b', 25, 0, 5, 10);
        CHECK.due("a gap of twice the size", Pages.blocks(far, 2), "0,1");
        CHECK.due("its text", Pages.text(far), "a|b");
        far.sign('c', 5, -6, 0, 11);
        CHECK.due("the greatest size of all signs counts", Pages.blocks(far, 3), "0,0,0");
    }

    private static void downEdges() {
        TextOrder near = Pages.lettered();
        near.sign('a', 0, 0, 5, 10);
        near.sign('b', 0, -19, 5, 10);
        CHECK.due("a gap below the size", Pages.blocks(near, 2), "0,0");
        TextOrder far = Pages.lettered();
        far.sign('a', 0, -20, 5, 10);
        far.sign('b', 0, 0, 5, 10);
        CHECK.due("a gap of the size", Pages.blocks(far, 2), "1,0");
        far.sign('c', 5, -1, 5, 9);
        CHECK.due("the least v is the bottom", Pages.blocks(far, 3), "0,0,0");
        TextOrder tall = Pages.lettered();
        tall.sign('a', 0, 0, 5, 10);
        tall.sign('b', 0, -31, 5, 10);
        tall.sign('c', 5, -31, 5, 15);
        CHECK.due("the greatest v and size is the top", Pages.blocks(tall, 3), "0,1,1");
        tall.sign('d', 10, -31, 5, 16);
        CHECK.due("the greatest size grows with it", Pages.blocks(tall, 4), "0,0,0,0");
    }

    /** Two signs, the later one so far right and so far down that they are in two lines. */
    private static void across(int size, long gap, String want) {
        TextOrder page = Pages.lettered();
        page.sign('a', 0, 0, 5, size);
        page.sign('b', 5 + gap, -size, 5, size);
        CHECK.due("a gap of " + gap + " across, size " + size, Pages.blocks(page, 2), want);
    }

    private static void down(int size, long gap, String want) {
        TextOrder page = Pages.lettered();
        page.sign('a', 0, 0, 5, size);
        page.sign('b', 0, -size - gap, 5, size);
        CHECK.due("a gap of " + gap + " down, size " + size, Pages.blocks(page, 2), want);
    }

    /** "If it is twice the greatest size of all their signs or more"; "a gap of once the greatest size". */
    private static void leastAndGreatestSizes() {
        across(1, 1, "0,0");
        across(1, 2, "0,1");
        across(2, 3, "0,0");
        across(2, 4, "0,1");
        across(1000, 1999, "0,0");
        across(1000, 2000, "0,1");
        down(1, 0, "0,0");
        down(1, 1, "0,1");
        down(2, 1, "0,0");
        down(2, 2, "0,1");
        down(1000, 999, "0,0");
        down(1000, 1000, "0,1");
    }

    /** A left that is a right of one before, and a top that is a bottom, are not beyond it. */
    private static void noGapAtAll() {
        across(1, 0, "0,0");
        across(1, -1, "0,0");
        across(10, -5, "0,0");
        down(1, -1, "0,0");
        down(10, -4, "0,0");
        TextOrder same = Pages.lettered();
        same.sign('a', 0, 0, 0, 1);
        same.sign('b', 0, 0, 0, 1);
        CHECK.due("two at one place", Pages.blocks(same, 2), "0,0");
        TextOrder alone = Pages.lettered();
        alone.sign('a', 0, 0, 0, 1);
        CHECK.due("one alone", alone.block(0), 0);
    }

    /** Two columns over a broad foot: the foot is cut off first, then the columns. */
    private static void widestFirst() {
        TextOrder page = Pages.lettered();
        page.sign('a', 0, 0, 10, 10);
        page.sign('b', 40, 0, 10, 10);
        page.sign('c', 0, -12, 10, 10);
        page.sign('d', 40, -12, 10, 10);
        CHECK.due("columns", Pages.text(page), "a_c|b_d");
        page.sign('e', 0, -32, 50, 10);
        CHECK.due("columns over a foot", Pages.text(page), "a_c|b_d|e");
        CHECK.due("their blocks", Pages.blocks(page, 5), "0,1,0,1,2");
        TextOrder three = Pages.lettered();
        three.sign('a', 0, -30, 10, 10);
        three.sign('b', 40, 0, 10, 10);
        three.sign('c', 80, -30, 10, 10);
        CHECK.due("of gaps as wide the first", Pages.text(three), "a|b|c");
        TextOrder wide = Pages.lettered();
        wide.sign('a', 0, -30, 10, 10);
        wide.sign('b', 30, 0, 10, 10);
        wide.sign('c', 80, -30, 10, 10);
        wide.sign('d', 85, -45, 10, 20);
        CHECK.due("the widest gap is wide enough, then, of lesser signs, the other", Pages.blocks(wide, 4), "0,1,2,2");
    }

    /**
     * A broad sign over two lesser ones, the lower of them to the left: if the broad one is parted from both,
     * these are parted from left to right, else each comes by itself from top to bottom.
     */
    private static void steps(long first, long second, String want) {
        TextOrder page = Pages.lettered();
        page.sign('a', 0, 0, 100, 10);
        page.sign('b', 60, -10 - first, 10, 10);
        page.sign('c', 0, -20 - first - second, 10, 10);
        CHECK.due("gaps of " + first + " and " + second + " down", Pages.text(page), want);
    }

    /** "The widest one, of these the first, parts those before it from those behind it". */
    private static void firstOfTheWidest() {
        steps(10, 10, "a|c|b");
        steps(11, 10, "a|c|b");
        steps(10, 11, "a|b|c");
        steps(10, 9, "a|c|b");
        steps(9, 10, "a_b|c");
        steps(9, 9, "a_b_c");
        steps(500, 500, "a|c|b");
    }

    /** A gap across is taken before a wider one down, and one down only where none across is wide enough. */
    private static void acrossBeforeDown() {
        TextOrder page = Pages.lettered();
        page.sign('a', 30, 0, 10, 10);
        page.sign('b', 0, -500, 10, 10);
        CHECK.due("across", Pages.text(page), "b|a");
        TextOrder near = Pages.lettered();
        near.sign('a', 29, 0, 10, 10);
        near.sign('b', 0, -500, 10, 10);
        CHECK.due("down, as the gap across is less than twice the size", Pages.text(near), "a|b");
    }

    /** "Its LEFT is its first sign's u, its RIGHT the greatest u and width", top and bottom likewise. */
    private static void edgesOfSegments() {
        TextOrder page = Pages.lettered();
        page.sign('a', 0, 0, 40, 10);
        page.sign('b', 10, 0, 5, 10);
        page.sign('c', 59, -12, 5, 10);
        CHECK.due("the right is not the last sign's", Pages.blocks(page, 3), "0,0,0");
        TextOrder far = Pages.lettered();
        far.sign('a', 0, 0, 40, 10);
        far.sign('b', 10, 0, 5, 10);
        far.sign('c', 60, -12, 5, 10);
        CHECK.due("it is the broad sign's", Pages.blocks(far, 3), "0,0,1");
        TextOrder left = Pages.lettered();
        left.sign('a', 0, 0, 10, 10);
        left.sign('b', 35, -12, 10, 10);
        left.sign('c', 29, -13, 10, 10);
        CHECK.due("the left is the first sign's by u", Pages.blocks(left, 3), "0,0,0");
        TextOrder right = Pages.lettered();
        right.sign('a', 0, 0, 10, 10);
        right.sign('b', 35, -12, 10, 10);
        right.sign('c', 30, -13, 10, 10);
        CHECK.due("and parts at twice the size", Pages.blocks(right, 3), "0,1,1");
        TextOrder bottom = Pages.lettered();
        bottom.sign('a', 0, 0, 5, 10);
        bottom.sign('b', 5, -5, 5, 10);
        bottom.sign('c', 10, 0, 5, 10);
        bottom.sign('d', 0, -24, 5, 10);
        CHECK.due("the bottom is the least v", Pages.blocks(bottom, 4), "0,0,0,0");
        bottom.turn(1, true);
        CHECK.due("without that sign there is a gap", Pages.blocks(bottom, 4), "0,2,0,1");
        for (long y = -20; y <= -19; y++) {
            TextOrder top = Pages.lettered();
            top.sign('a', 0, 0, 5, 10);
            top.sign('b', 0, -20, 5, 5);
            top.sign('c', 5, y, 5, 10);
            top.sign('d', 10, -20, 5, 5);
            CHECK.due("the top is the greatest v and size", Pages.blocks(top, 4), y == -20 ? "0,1,1,1" : "0,0,0,0");
        }
    }

    /** Gaps that lie over (0, 0), where no sign is. */
    private static void overTheMiddle() {
        TextOrder across = Pages.lettered();
        across.sign('a', -15, 0, 5, 10);
        across.sign('b', 10, -10, 5, 10);
        CHECK.due("a gap from -10 to 10 across", Pages.blocks(across, 2), "0,1");
        TextOrder down = Pages.lettered();
        down.sign('a', 0, 5, 5, 10);
        down.sign('b', 0, -15, 5, 10);
        CHECK.due("a gap from 5 to -5 down", Pages.blocks(down, 2), "0,1");
    }

    /** A great sign in a line of its own, which then is there twice: it holds nothing together any more. */
    private static void segmentsThatAreGone() {
        TextOrder page = Pages.lettered();
        page.sign('a', 0, 0, 5, 10);
        page.sign('b', 0, -20, 5, 10);
        page.sign('d', 5, -18, 5, 4);
        page.sign('c', 0, -22, 5, 1000);
        CHECK.due("lines", Pages.lines(page, 4), "0,1,1,2");
        CHECK.due("held together", Pages.blocks(page, 4), "0,0,0,0");
        page.map(0, 'c', 'b', 0);
        CHECK.due("as a double", Pages.blocks(page, 4), "0,1,1,-1");
    }

    /** The greatest size is that of the signs that are looked at: not of parts that are gone, nor of doubles. */
    private static void sizesOfThePart() {
        TextOrder page = Pages.lettered();
        page.sign('a', 0, 0, 10, 100);
        page.sign('b', 210, -60, 10, 10);
        page.sign('c', 210, -80, 10, 10);
        CHECK.due("what the great one is parted from is parted by its own size", Pages.blocks(page, 3), "0,1,2");
        TextOrder near = Pages.lettered();
        near.sign('a', 0, 0, 10, 100);
        near.sign('b', 209, -60, 10, 10);
        near.sign('c', 209, -80, 10, 10);
        CHECK.due("all by the great one's size", Pages.blocks(near, 3), "0,0,0");
        TextOrder twice = Pages.lettered();
        twice.sign('a', 0, 0, 5, 10);
        twice.sign('b', 0, -20, 5, 10);
        twice.sign('a', 0, 0, 900, 1000);
        CHECK.due("a double's size is nothing", Pages.blocks(twice, 3), "0,1,-1");
        TextOrder turned = Pages.lettered();
        turned.sign('a', 0, 0, 5, 10);
        turned.sign('b', 0, -20, 5, 10);
        turned.sign('c', 0, 0, 900, 1000);
        turned.turn(2, true);
        CHECK.due("nor that of a turned one", Pages.blocks(turned, 3), "0,1,2");
    }

    private static void overlaps() {
        TextOrder page = Pages.lettered();
        page.sign('a', 0, 0, 60, 10);
        page.sign('b', 5, -12, 5, 10);
        page.sign('c', 40, -24, 5, 10);
        CHECK.due("a gap is beyond all rights before", Pages.blocks(page, 3), "0,0,0");
        TextOrder tall = Pages.lettered();
        tall.sign('a', 0, 0, 5, 60);
        tall.sign('b', 60, 12, 5, 10);
        tall.sign('c', 60, 34, 5, 10);
        CHECK.due("or below all bottoms before", Pages.text(tall), "c_b_a");
        TextOrder left = Pages.lettered();
        left.sign('a', -1000, 0, 10, 10);
        left.sign('b', -900, 0, 50, 10);
        left.sign('c', -890, -12, 10, 10);
        left.sign('d', -895, -24, 10, 10);
        CHECK.due("what overlaps behind a gap stays together", Pages.blocks(left, 4), "0,1,1,1");
        TextOrder low = Pages.lettered();
        low.sign('a', 0, 1000, 10, 10);
        low.sign('b', 0, 900, 10, 10);
        low.sign('c', 5, 888, 10, 10);
        CHECK.due("what overlaps below a gap stays together", Pages.blocks(low, 3), "0,1,1");
    }

    private static void segmentsOfOneBlock() {
        TextOrder page = Pages.lettered();
        page.sign('b', 40, 0, 5, 10);
        page.sign('a', 0, 2, 5, 10);
        page.sign('d', 40, -12, 5, 10);
        page.sign('c', 0, -10, 5, 10);
        page.sign('e', 0, -24, 45, 10);
        CHECK.due("by lines, then from left to right", Pages.text(page), "a_b_c_d_e");
        CHECK.due("one block", Pages.blocks(page, 5), "0,0,0,0,0");
    }

    private static void turnedBlocks() {
        TextOrder page = Pages.lettered();
        page.sign('a', 0, 0, 5, 10);
        page.sign('b', 0, 0, 5, 10);
        page.sign('c', 0, 100, 5, 10);
        page.turn(1, true);
        page.turn(2, true);
        CHECK.due("turned ones come last", Pages.blocks(page, 3), "0,1,2");
        page.turn(0, true);
        CHECK.due("turned ones alone", Pages.blocks(page, 3), "0,0,1");
        CHECK.due("their text", Pages.text(page), "ab|c");
    }

    /** Turned: a gap along y of twice the size, or along x of once the size; those with the greater -x first. */
    private static void turnedEdges() {
        long[][] places = {{10, 24}, {10, 25}, {19, 0}, {20, 0}, {-19, 0}, {-20, 0}};
        String[] want = {"0,0", "0,1", "0,0", "0,1", "0,0", "1,0"};
        for (int i = 0; i < places.length; i++) {
            TextOrder page = Pages.lettered();
            page.sign('a', 0, 0, 5, 10);
            page.sign('b', places[i][0], places[i][1], 5, 10);
            page.turn(0, true);
            page.turn(1, true);
            CHECK.due("turned, at (" + places[i][0] + ", " + places[i][1] + ")", Pages.blocks(page, 2), want[i]);
        }
    }

    /** Gaps that become narrower from left to right part one segment at a time, 199 times. */
    private static void deepCuts() {
        TextOrder right = Pages.lettered();
        TextOrder left = Pages.lettered();
        TextOrder down = Pages.lettered();
        long at = 0;
        for (int i = 0; i < 200; i++) {
            right.sign('a', at, 0, 0, 1);
            left.sign('a', -at, 0, 0, 1);
            down.sign('a', 0, -at, 0, 1);
            at += 500 - i;
        }
        CHECK.due("the last block to the right", right.block(199), 199);
        CHECK.due("the first block to the left", left.block(199), 0);
        CHECK.due("the last block to the left", left.block(0), 199);
        CHECK.due("the last block downward", down.block(199), 199);
        CHECK.due("its line", down.line(199), 199);
        CHECK.due("length()", right.length(), 399);
    }

    private static void farthestBlocks() {
        TextOrder page = Pages.lettered();
        page.sign('a', 1000000, 1000000, 1000000, 1000);
        page.sign('b', -1000000, -1000000, 1000000, 1000);
        page.sign('c', 1000000, -1000000, 1000000, 1000);
        page.sign('d', -1000000, 1000000, 1000000, 1000);
        CHECK.due("at the ends of the page", Pages.blocks(page, 4), "2,1,3,0");
        for (int i = 0; i < 4; i++) {
            page.turn(i, true);
        }
        CHECK.due("all turned", Pages.blocks(page, 4), "3,0,1,2");
    }
}
