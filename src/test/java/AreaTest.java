/** Promise 17: area. */
public final class AreaTest {
    public static void main(String[] args) {
        Check check = new Check("AreaTest");
        TextOrder page = Pages.lettered();
        page.map(0, 1, 'f', 'i');
        page.sign(1, 10, 20, 5, 10);
        page.sign('b', 17, 20, 5, 10);
        page.sign('b', 17, 21, 5, 10);
        page.sign('-', 10, 8, 5, 10);
        page.sign('C', 10, -4, 5, 10);
        check.due("text", Pages.text(page), "fi_b_-_C");
        check.due("all, but not what came between nor doubles", page.area(10, -4, 17, 20), 5);
        check.due("all longs", page.area(Long.MIN_VALUE, Long.MIN_VALUE, Long.MAX_VALUE, Long.MAX_VALUE), 5);
        check.due("one place", page.area(10, 20, 10, 20), 2);
        check.due("left of it", page.area(0, 0, 9, 100), 0);
        check.due("its left end", page.area(10, 20, 16, 20), 2);
        check.due("right of it", page.area(11, 20, 17, 20), 1);
        check.due("its lower end", page.area(10, 9, 16, 19), 0);
        check.due("its upper end", page.area(0, 21, 100, 100), 0);
        check.due("nothing lies from right to left", page.area(17, -4, 10, 20), 0);
        check.due("nothing lies from top to bottom", page.area(10, 20, 17, -4), 0);
        page.map(0, 'C', 'c', 0);
        check.due("text with a hyphen joined", Pages.text(page), "fi_b_c");
        check.due("a joined hyphen is no letter", page.area(10, 8, 10, 8), 0);
        check.due("all with a hyphen joined", page.area(10, -4, 17, 20), 4);
        page.turn(0, true);
        check.due("a turned sign's place is (x, y)", page.area(10, 20, 10, 20), 2);
        check.due("and not (u, v)", page.area(20, -10, 20, -10), 0);
        check.end();
    }
}
