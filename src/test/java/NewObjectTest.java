import java.util.NoSuchElementException;

/** Promise 1: a new object has no signs, and its maps tell no letters. */
public final class NewObjectTest {
    private static final Check CHECK = new Check("NewObjectTest");

    public static void main(String[] args) {
        nothingIsTold();
        noSigns();
        noLettersAreTold();
        nothingIsFoundOrSought();
        firstSign();
        objectsShareNothing();
        CHECK.end();
    }

    private static void nothingIsTold() {
        TextOrder page = new TextOrder();
        CHECK.due("length()", page.length(), 0);
        CHECK.due("word(-1, 0)", page.word(-1, 0), 0);
        CHECK.due("area of all", page.area(Long.MIN_VALUE, Long.MIN_VALUE, Long.MAX_VALUE, Long.MAX_VALUE), 0);
        CHECK.dueThrow("letter(0)", IndexOutOfBoundsException.class, () -> page.letter(0));
        CHECK.dueThrow("from(0)", IndexOutOfBoundsException.class, () -> page.from(0));
        CHECK.dueThrow("word(0, 0)", IndexOutOfBoundsException.class, () -> page.word(0, 0));
    }

    private static void noSigns() {
        TextOrder page = new TextOrder();
        CHECK.dueThrow("line(0)", NoSuchElementException.class, () -> page.line(0));
        CHECK.dueThrow("block(0)", NoSuchElementException.class, () -> page.block(0));
        CHECK.dueThrow("twice(0)", NoSuchElementException.class, () -> page.twice(0));
        CHECK.dueThrow("space(0)", NoSuchElementException.class, () -> page.space(0));
        CHECK.dueThrow("turn(0, false)", NoSuchElementException.class, () -> page.turn(0, false));
        CHECK.dueThrow("tag(0, -1)", NoSuchElementException.class, () -> page.tag(0, -1));
    }

    private static void noLettersAreTold() {
        for (int kind = 0; kind < 4; kind++) {
            TextOrder maps = new TextOrder();
            for (int code = 0; code < 256; code++) {
                CHECK.due("map(" + kind + ", " + code + ", 0, 0)", maps.map(kind, code, 0, 0), 0);
            }
        }
        TextOrder first = new TextOrder();
        TextOrder last = new TextOrder();
        for (int i = 0; i < 128; i++) {
            first.sign(i, i * 5L, 0, 5, 10);
            last.sign(128 + i, i * 5L, 0, 5, 10);
        }
        for (int i = 0; i < 128; i++) {
            CHECK.due("the letter of code " + i, first.letter(i), 65533);
            CHECK.due("the letter of code " + (128 + i), last.letter(i), 65533);
        }
    }

    private static void nothingIsFoundOrSought() {
        TextOrder page = new TextOrder();
        CHECK.dueThrow("found(0) before any find", IndexOutOfBoundsException.class, () -> page.found(0));
        CHECK.due("find(0)", page.find(0), 0);
        CHECK.dueThrow("found(0)", IndexOutOfBoundsException.class, () -> page.found(0));
        CHECK.due("find('a')", page.find('a'), 1);
    }

    private static void firstSign() {
        TextOrder page = new TextOrder();
        CHECK.due("the first sign", page.sign(7, 0, 0, 5, 10), 0);
        CHECK.due("its tag", page.tag(0, -1), -1);
        CHECK.due("its turn", page.turn(0, false), 0);
        CHECK.due("its letter", page.letter(0), 65533);
        CHECK.due("its letters", page.length(), 1);
        CHECK.due("its line", page.line(0), 0);
        CHECK.due("its block", page.block(0), 0);
        CHECK.due("it is no double", page.twice(0), -1);
        CHECK.due("no space is behind it", page.space(0), false);
    }

    private static void objectsShareNothing() {
        TextOrder page = Pages.lettered();
        Pages.row(page, "ab", 0, 0);
        page.find('a');
        page.find(0);
        page.find('b');
        TextOrder other = new TextOrder();
        CHECK.due("another object's length()", other.length(), 0);
        CHECK.due("its maps", other.map(0, 'a', 0, 0), 0);
        CHECK.due("what it seeks", other.find('x'), 1);
        CHECK.dueThrow("what it found", IndexOutOfBoundsException.class, () -> other.found(0));
        CHECK.due("its first sign", other.sign('a', 0, 0, 5, 10), 0);
        CHECK.due("its letter", other.letter(0), 65533);
        CHECK.due("the text of the first object", Pages.text(page), "ab");
        CHECK.due("what that one seeks", page.find('b'), 2);
    }
}
