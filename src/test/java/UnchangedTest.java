import java.util.ArrayList;
import java.util.List;
import java.util.NoSuchElementException;
import java.util.function.Consumer;
import java.util.function.Supplier;

/**
 * "A call that throws changes nothing; where several exceptions that a call names fit, it is the one that it
 * names first": each call that is refused, on an object of its own, and what all calls behind it answer.
 */
public final class UnchangedTest {
    private static final Check CHECK = new Check("UnchangedTest");
    private static final Class<IllegalArgumentException> ARGUMENT = IllegalArgumentException.class;
    private static final Class<UnsupportedOperationException> FULL = UnsupportedOperationException.class;
    private static final Class<IndexOutOfBoundsException> INDEX = IndexOutOfBoundsException.class;
    private static final Class<NoSuchElementException> NO_SIGN = NoSuchElementException.class;
    private static final int SIGNS = 10;
    private static final int[] FAR = {Integer.MIN_VALUE, Integer.MAX_VALUE};

    private static final class Refused {
        final String name;
        final Class<? extends RuntimeException> want;
        final Consumer<TextOrder> call;

        Refused(String name, Class<? extends RuntimeException> want, Consumer<TextOrder> call) {
            this.name = name;
            this.want = want;
            this.call = call;
        }
    }

    public static void main(String[] args) {
        List<Refused> calls = new ArrayList<>();
        signs(calls);
        maps(calls);
        noSuchSigns(calls, SIGNS);
        wrongTags(calls);
        lettersAndWords(calls, 11, 5);
        sought(calls, 3);
        eachAlone("a page", calls, UnchangedTest::page, p -> Pages.told(p, SIGNS) + memory(p));
        allInARow(calls);
        List<Refused> none = new ArrayList<>();
        signs(none);
        maps(none);
        noSuchSigns(none, 0);
        lettersAndWords(none, 0, 0);
        sought(none, 0);
        eachAlone("a new object", none, TextOrder::new, UnchangedTest::emptyTold);
        List<Refused> full = new ArrayList<>();
        full.add(new Refused("sign 200", FULL, p -> p.sign('a', 0, 0, 5, 10)));
        full.add(new Refused("letter 21 sought", FULL, p -> p.find('a')));
        signs(full);
        noSuchSigns(full, 200);
        lettersAndWords(full, 399, 200);
        sought(full, 199);
        eachAlone("a full page", full, UnchangedTest::fullPage, UnchangedTest::fullTold);
        CHECK.end();
    }

    /** Ten signs, one a double, one turned, one with a tag; three places found, and a letter sought. */
    private static TextOrder page() {
        TextOrder page = Pages.lettered();
        Pages.row(page, "ab-", 0, 0);
        Pages.row(page, "cd", 0, -12);
        Pages.row(page, "a", 1, 1);
        Pages.row(page, "eb b", 100, 0);
        page.tag(6, 3);
        page.turn(4, true);
        page.find('b');
        page.find(0);
        page.find('a');
        return page;
    }

    private static void signs(List<Refused> calls) {
        long[][] wrong = {{-1, 0, 0, 5, 10}, {256, 0, 0, 5, 10}, {0, -1000001, 0, 5, 10}, {0, 1000001, 0, 5, 10},
            {0, 0, -1000001, 5, 10}, {0, 0, 1000001, 5, 10}, {0, 0, 0, -1, 10}, {0, 0, 0, 1000001, 10},
            {0, 0, 0, 5, 0}, {0, 0, 0, 5, 1001}};
        for (long[] w : wrong) {
            calls.add(new Refused("sign(" + w[0] + ", " + w[1] + ", " + w[2] + ", " + w[3] + ", " + w[4] + ")",
                    ARGUMENT, p -> p.sign((int) w[0], w[1], w[2], w[3], (int) w[4])));
        }
    }

    private static void maps(List<Refused> calls) {
        int[][] noMap = {{-1, 'a', 'x', 0}, {4, 'a', 'x', 0}, {0, -1, 'x', 0}, {0, 256, 'x', 0}, {4, 256, 0, 'x'},
            {-1, 'a', 65536, 0}, {0, 256, 'x', -1}};
        int[][] noLetter = {{0, 'a', -1, 0}, {0, 'a', 65536, 0}, {0, 'a', 'x', -1}, {0, 'a', 'x', 65536},
            {0, 'a', 0, 'x'}, {3, 255, 0, 1}};
        for (int[] m : noMap) {
            calls.add(mapOf(m, INDEX));
        }
        for (int[] m : noLetter) {
            calls.add(mapOf(m, ARGUMENT));
        }
    }

    private static Refused mapOf(int[] m, Class<? extends RuntimeException> want) {
        return new Refused("map(" + m[0] + ", " + m[1] + ", " + m[2] + ", " + m[3] + ")", want,
                p -> p.map(m[0], m[1], m[2], m[3]));
    }

    private static void noSuchSigns(List<Refused> calls, int first) {
        for (int sign : new int[] {-1, first, FAR[0], FAR[1]}) {
            calls.add(new Refused("turn(" + sign + ", true)", NO_SIGN, p -> p.turn(sign, true)));
            calls.add(new Refused("tag(" + sign + ", 0)", NO_SIGN, p -> p.tag(sign, 0)));
            calls.add(new Refused("tag(" + sign + ", 101)", NO_SIGN, p -> p.tag(sign, 101)));
            calls.add(new Refused("line(" + sign + ")", NO_SIGN, p -> p.line(sign)));
            calls.add(new Refused("block(" + sign + ")", NO_SIGN, p -> p.block(sign)));
            calls.add(new Refused("twice(" + sign + ")", NO_SIGN, p -> p.twice(sign)));
            calls.add(new Refused("space(" + sign + ")", NO_SIGN, p -> p.space(sign)));
        }
    }

    private static void wrongTags(List<Refused> calls) {
        for (int tag : new int[] {-2, 101, FAR[0], FAR[1]}) {
            calls.add(new Refused("tag(0, " + tag + ")", ARGUMENT, p -> p.tag(0, tag)));
            calls.add(new Refused("tag(6, " + tag + ")", ARGUMENT, p -> p.tag(6, tag)));
        }
    }

    private static void lettersAndWords(List<Refused> calls, int letters, int words) {
        for (int i : new int[] {-1, letters, FAR[0], FAR[1]}) {
            calls.add(new Refused("letter(" + i + ")", INDEX, p -> p.letter(i)));
            calls.add(new Refused("from(" + i + ")", INDEX, p -> p.from(i)));
        }
        for (int i : new int[] {-2, words, FAR[0], FAR[1]}) {
            calls.add(new Refused("word(" + i + ", 0)", INDEX, p -> p.word(i, 0)));
            calls.add(new Refused("word(" + i + ", 1)", INDEX, p -> p.word(i, 1)));
        }
        calls.add(new Refused("word(0, 2)", INDEX, p -> p.word(0, 2)));
        calls.add(new Refused("word(0, -1)", INDEX, p -> p.word(0, -1)));
        calls.add(new Refused("share(1, 0)", ArithmeticException.class, p -> p.share(1, 0)));
    }

    private static void sought(List<Refused> calls, int places) {
        for (int c : new int[] {-1, 65536, FAR[0], FAR[1]}) {
            calls.add(new Refused("find(" + c + ")", ARGUMENT, p -> p.find(c)));
        }
        for (int i : new int[] {-1, places, FAR[0], FAR[1]}) {
            calls.add(new Refused("found(" + i + ")", INDEX, p -> p.found(i)));
        }
    }

    private interface Told {
        String of(TextOrder page);
    }

    private static void eachAlone(String state, List<Refused> calls, Supplier<TextOrder> make, Told told) {
        String due = told.of(make.get());
        for (Refused refused : calls) {
            String name = state + ": " + refused.name;
            TextOrder page = make.get();
            CHECK.dueThrow(name, refused.want, () -> refused.call.accept(page));
            CHECK.due("behind " + name, told.of(page), due);
            TextOrder known = make.get();
            known.length();
            CHECK.dueThrow(name + " behind length()", refused.want, () -> refused.call.accept(known));
            CHECK.due("behind " + name + " behind length()", told.of(known), due);
        }
    }

    private static void allInARow(List<Refused> calls) {
        TextOrder page = page();
        for (Refused refused : calls) {
            CHECK.dueThrow("in a row: " + refused.name, refused.want, () -> refused.call.accept(page));
        }
        CHECK.due("behind all of them", Pages.told(page, SIGNS), Pages.told(page(), SIGNS));
        CHECK.due("and what is kept behind them", memory(page), memory(page()));
    }

    /** What is kept but is not seen in the text: it is asked for by calls that change it, so only once. */
    private static String memory(TextOrder page) {
        StringBuilder memory = new StringBuilder(" found ").append(page.found(0)).append(' ').append(page.found(2));
        memory.append(" sought ").append(page.find('b')).append(' ').append(page.find(0)).append(" tags");
        for (int i = 0; i < SIGNS; i++) {
            memory.append(' ').append(page.tag(i, -1)).append(page.turn(i, false));
        }
        return memory.append(" maps ").append(page.map(0, 'a', 0, 0)).append(page.map(0, 0, 0, 0))
                .append(page.map(0, 255, 0, 0)).append(page.map(3, 255, 0, 0)).append(page.map(3, 'a', 0, 0))
                .append(" next ").append(page.sign('z', 0, 0, 5, 10)).toString();
    }

    private static String emptyTold(TextOrder page) {
        return page.length() + " " + page.word(-1, 0) + " " + page.find('x') + " " + page.find(0) + " "
                + page.map(0, 'a', 'b', 0) + page.map(3, 255, 0, 0) + " " + page.sign('a', 0, 0, 5, 10) + " "
                + page.tag(0, -1) + page.turn(0, false) + " " + page.letter(0);
    }

    /** 200 signs with a space behind each, and 20 letters sought: there is room for no more. */
    private static TextOrder fullPage() {
        TextOrder page = new TextOrder();
        page.map(0, 1, 'a', 0);
        for (int i = 0; i < 200; i++) {
            page.sign(1, i * 10L, 0, 5, 10);
        }
        page.find(' ');
        page.find(0);
        for (int i = 0; i < 20; i++) {
            page.find(i % 2 == 0 ? 'a' : ' ');
        }
        return page;
    }

    private static String fullTold(TextOrder page) {
        StringBuilder told = new StringBuilder().append(page.length()).append(' ').append(page.word(-1, 0));
        for (int i = 0; i < 399; i += 2) {
            told.append(' ').append(page.letter(i));
        }
        return told.append(' ').append(page.found(198)).append(' ').append(page.find(0)).append(' ')
                .append(page.found(0)).append(' ').append(page.find('b')).append(' ').append(page.tag(199, -1))
                .append(page.turn(199, false)).append(' ').append(page.line(199)).append(page.block(199))
                .append(page.twice(199)).append(page.space(198)).append(page.from(398)).toString();
    }
}
