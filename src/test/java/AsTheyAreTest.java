import java.util.ArrayList;
import java.util.List;
import java.util.function.Consumer;

/**
 * "What is told is by all signs, maps and tags as they are": an object that is asked after each change tells the
 * same as one that is asked for the first time when all changes have been made.
 */
public final class AsTheyAreTest {
    private static final Check CHECK = new Check("AsTheyAreTest");

    public static void main(String[] args) {
        afterEach("blocks", blockChanges(), p -> Pages.blocks(p, 18));
        afterEach("lines", blockChanges(), p -> Pages.lines(p, 18));
        afterEach("doubles", doubleChanges(), p -> Pages.doubles(p, 6) + " " + Pages.owners(p));
        afterEach("text", textChanges(), p -> Pages.text(p) + " " + p.word(-1, 0) + p.area(0, -12, 5, 0));
        CHECK.end();
    }

    private interface Told {
        String of(TextOrder page);
    }

    private static void afterEach(String what, List<Consumer<TextOrder>> changes, Told told) {
        TextOrder asked = new TextOrder();
        for (int i = 0; i < changes.size(); i++) {
            changes.get(i).accept(asked);
            TextOrder fresh = new TextOrder();
            for (Consumer<TextOrder> change : changes.subList(0, i + 1)) {
                change.accept(fresh);
            }
            CHECK.due(what + " behind change " + i, told.of(asked), told.of(fresh));
        }
    }

    /** Three columns that are broken up line by line, and a great sign that holds all together while it is there. */
    private static List<Consumer<TextOrder>> blockChanges() {
        List<Consumer<TextOrder>> changes = new ArrayList<>();
        changes.add(p -> {
            for (int i = 0; i < 17; i++) {
                p.sign(i, i / 6 * 60L, i % 6 * -12L, 5, 10);
            }
            p.sign(17, 0, 100, 5, 1000);
        });
        for (int sign : new int[] {17, 1, 4, 7, 9, 10, 14, 13, 15}) {
            changes.add(p -> p.turn(sign, true));
        }
        for (int sign : new int[] {4, 13, 17, 1, 10}) {
            changes.add(p -> p.turn(sign, false));
        }
        changes.add(p -> p.turn(17, true));
        return changes;
    }

    private static List<Consumer<TextOrder>> doubleChanges() {
        List<Consumer<TextOrder>> changes = new ArrayList<>();
        changes.add(p -> {
            for (int i = 0; i < 6; i++) {
                p.sign(i % 3, i, 0, 8, 10);
            }
        });
        changes.add(p -> p.map(2, 0, 'a', 0));
        changes.add(p -> p.map(1, 1, 'b', 0));
        changes.add(p -> p.map(1, 2, 'b', 'c'));
        changes.add(p -> p.map(0, 2, 'a', 0));
        changes.add(p -> p.turn(0, true));
        changes.add(p -> p.turn(5, true));
        changes.add(p -> p.map(0, 2, 0, 0));
        changes.add(p -> p.turn(0, false));
        changes.add(p -> p.map(1, 1, 0, 0));
        return changes;
    }

    private static List<Consumer<TextOrder>> textChanges() {
        List<Consumer<TextOrder>> changes = new ArrayList<>();
        changes.add(p -> p.sign(1, 0, 0, 5, 10));
        changes.add(p -> p.map(0, 1, 'x', '-'));
        changes.add(p -> p.sign(2, 0, -12, 5, 10));
        changes.add(p -> p.map(3, 2, 'y', 0));
        changes.add(p -> p.tag(1, 100));
        changes.add(p -> p.tag(0, 100));
        changes.add(p -> p.map(2, 2, 'Y', ' '));
        changes.add(p -> p.sign(3, 7, 0, 5, 10));
        changes.add(p -> p.tag(2, 0));
        changes.add(p -> p.turn(1, true));
        changes.add(p -> p.tag(0, -1));
        changes.add(p -> p.map(0, 1, 0, 0));
        return changes;
    }
}
