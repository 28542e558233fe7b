import java.util.NoSuchElementException;

/** Promise 1: a new object has no signs, and its maps tell no letters. */
public final class NewObjectTest {
    public static void main(String[] args) {
        Check check = new Check("NewObjectTest");
        TextOrder page = new TextOrder();
        check.due("length()", page.length(), 0);
        check.due("word(-1, 0)", page.word(-1, 0), 0);
        check.due("area of all", page.area(Long.MIN_VALUE, Long.MIN_VALUE, Long.MAX_VALUE, Long.MAX_VALUE), 0);
        check.due("find(0)", page.find(0), 0);
        check.dueThrow("found(0)", IndexOutOfBoundsException.class, () -> page.found(0));
        check.dueThrow("line(0)", NoSuchElementException.class, () -> page.line(0));
        for (int kind = 0; kind < 4; kind++) {
            TextOrder maps = new TextOrder();
            for (int code = 0; code < 256; code++) {
                check.due("map(" + kind + ", " + code + ", 0, 0)", maps.map(kind, code, 0, 0), 0);
            }
        }
        check.due("the first sign", page.sign(7, 0, 0, 5, 10), 0);
        check.due("its tag", page.tag(0, -1), -1);
        check.due("its turn", page.turn(0, false), 0);
        check.due("its letter", page.letter(0), 65533);
        check.due("its letters", page.length(), 1);
        TextOrder other = new TextOrder();
        check.due("another object's length()", other.length(), 0);
        check.end();
    }
}
