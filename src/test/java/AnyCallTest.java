import java.util.ArrayList;
import java.util.List;
import java.util.NoSuchElementException;
import java.util.function.LongSupplier;

/**
 * Rows of 512 calls with arguments right, wrong and at the edges between, made by a fixed row of numbers: each
 * answer is compared with the Model's, each exception with the first that the call names and that fits.
 */
public final class AnyCallTest {
    private static final Check CHECK = new Check("AnyCallTest");
    private static final int PAGES = 150;
    private static final int MOST_CALLS = 512;
    private static final int[] LETTERS = {1, 10, 32, 45, 96, 97, 122, 123, 65533, 65535, 97, 45, 120, 121};
    private static final long[] WRONG = {-1, -2, 256, 101, 1001, 65536, 1000001, -1000001, Integer.MIN_VALUE,
        Integer.MAX_VALUE, Long.MIN_VALUE, Long.MAX_VALUE, 1L << 32};
    private static long state;
    private static int refused = 0;
    private static int answered = 0;

    private final TextOrder page = new TextOrder();
    private final Model model = new Model();
    private final List<Integer> sought = new ArrayList<>();
    private List<Integer> found = new ArrayList<>();
    private boolean isWorkedOut = false;
    private final int spread;
    private final boolean isSeeking;

    /** Signs are spread so far; one that is seeking collects letters until there are 20, and more. */
    private AnyCallTest(int spread, boolean isSeeking) {
        this.spread = spread;
        this.isSeeking = isSeeking;
    }

    public static void main(String[] args) {
        for (int i = 0; i < PAGES; i++) {
            state = 77777L * (i + 1);
            AnyCallTest test = new AnyCallTest(i % 3 == 0 ? 40 : i % 3 == 1 ? 300 : 1000000, i % 4 == 0);
            boolean isFull = i % 30 == 29;
            int signs = isFull ? 300 : i % 5 == 0 ? 60 : 15;
            for (int call = 0; call < MOST_CALLS; call++) {
                test.oneCall("page " + i + ", call " + call + ", ", isFull && call < 200 ? 0 : next(100), signs);
            }
        }
        CHECK.due("refused calls are common", refused > PAGES * MOST_CALLS / 10, true);
        CHECK.due("answered calls are more", answered > refused, true);
        CHECK.end();
    }

    /** A number 0 .. bound - 1, always the same in the same run. */
    private static int next(int bound) {
        state = state * 6364136223846793005L + 1442695040888963407L;
        return (int) ((state >>> 33) % bound);
    }

    /** Mostly a number from least to most, else one of its ends, one beyond them, or one far away. */
    private static long number(long least, long most) {
        int kind = next(40);
        if (kind > 5) {
            return least + next((int) (most - least + 1));
        }
        return kind == 0 ? least : kind == 1 ? most : kind == 2 ? least - 1 : kind == 3 ? most + 1
                : WRONG[next(WRONG.length)];
    }

    private static int letter() {
        return next(12) == 0 ? (int) number(0, 65535) : LETTERS[next(LETTERS.length)];
    }

    private void due(String call, Class<? extends RuntimeException> want, LongSupplier body, long answer) {
        if (want == null) {
            answered++;
            CHECK.due(call, body.getAsLong(), answer);
        } else {
            refused++;
            CHECK.dueThrow(call, want, body::getAsLong);
        }
    }

    private Model told() {
        if (!isWorkedOut) {
            model.workOut();
            isWorkedOut = true;
        }
        return model;
    }

    private void oneCall(String where, int kind, int signs) {
        if (kind < 12 && (model.signs.size() < signs || next(10) == 0)) {
            sign(where);
        } else if (kind < 20) {
            map(where);
        } else if (kind < 32) {
            turnOrTag(where, kind < 26);
        } else if (kind < 55) {
            letterOrFrom(where, kind < 44);
        } else if (kind < 72) {
            ofASign(where, kind % 4);
        } else if (kind < 78) {
            word(where);
        } else if (kind < 92) {
            find(where);
        } else if (kind < 96) {
            found(where);
        } else {
            areaOrShare(where, kind < 98);
        }
    }

    private static boolean isOff(long value, long least, long most) {
        return value < least || value > most;
    }

    private void sign(String where) {
        int code = (int) number(0, 255) & (next(8) == 0 ? -1 : 7);
        long x = next(4) == 0 ? number(-1000000, 1000000) : next(spread) - spread / 2;
        long y = next(4) == 0 ? number(-1000000, 1000000) : (next(spread) - spread / 2) / 6 * 6;
        long width = next(4) == 0 ? number(0, 1000000) : next(12);
        int size = (int) (next(4) == 0 ? number(1, 1000) : 4 + next(9));
        boolean isWrong = isOff(code, 0, 255) || isOff(x, -1000000, 1000000) || isOff(y, -1000000, 1000000)
                || isOff(width, 0, 1000000) || isOff(size, 1, 1000);
        due(where + "sign(" + code + ", " + x + ", " + y + ", " + width + ", " + size + ")",
                isWrong ? IllegalArgumentException.class
                : model.signs.size() == 200 ? UnsupportedOperationException.class : null,
                () -> page.sign(code, x, y, width, size), model.signs.size());
        if (!isWrong && model.signs.size() < 200) {
            model.add(code, x, y, width, size);
            isWorkedOut = false;
        }
    }

    private void map(String where) {
        int kind = (int) number(0, 3);
        int code = (int) number(0, 255) & (next(8) == 0 ? -1 : 7);
        int letter = next(5) == 0 ? 0 : letter();
        int second = next(3) == 0 ? letter() : 0;
        boolean isOut = isOff(kind, 0, 3) || isOff(code, 0, 255);
        boolean isWrong = isOff(letter, 0, 65535) || isOff(second, 0, 65535) || letter == 0 && second != 0;
        int[] entry = isOut ? new int[2] : model.maps[kind][code];
        due(where + "map(" + kind + ", " + code + ", " + letter + ", " + second + ")",
                isOut ? IndexOutOfBoundsException.class : isWrong ? IllegalArgumentException.class : null,
                () -> page.map(kind, code, letter, second), (entry[0] > 0 ? 1 : 0) + (entry[1] > 0 ? 1 : 0));
        if (!isOut && !isWrong) {
            entry[0] = letter;
            entry[1] = second;
            isWorkedOut = false;
        }
    }

    private Model.Sign signOf(int sign) {
        return isOff(sign, 0, model.signs.size() - 1) ? null : model.signs.get(sign);
    }

    private int anySign() {
        return (int) number(0, Math.max(0, model.signs.size() - 1));
    }

    private void turnOrTag(String where, boolean isTurn) {
        int number = anySign();
        Model.Sign sign = signOf(number);
        boolean on = next(3) == 0;
        int tag = next(2) == 0 ? -1 : (int) number(-1, 100) & (next(4) == 0 ? -1 : 3);
        if (isTurn) {
            due(where + "turn(" + number + ", " + on + ")", sign == null ? NoSuchElementException.class : null,
                    () -> page.turn(number, on), sign != null && sign.turned ? 1 : 0);
        } else {
            due(where + "tag(" + number + ", " + tag + ")", sign == null ? NoSuchElementException.class
                    : isOff(tag, -1, 100) ? IllegalArgumentException.class : null,
                    () -> page.tag(number, tag), sign == null ? 0 : sign.tag);
        }
        if (sign != null && isTurn) {
            sign.turned = on;
            isWorkedOut = false;
        } else if (sign != null && !isOff(tag, -1, 100)) {
            sign.tag = tag;
            isWorkedOut = false;
        }
    }

    private void letterOrFrom(String where, boolean isLetter) {
        if (next(6) == 0) {
            due(where + "length()", null, () -> page.length(), told().text.size());
            return;
        }
        int i = (int) number(0, Math.max(0, told().text.size() - 1));
        boolean isOut = isOff(i, 0, told().text.size() - 1);
        Class<? extends RuntimeException> want = isOut ? IndexOutOfBoundsException.class : null;
        if (isLetter) {
            due(where + "letter(" + i + ")", want, () -> page.letter(i), isOut ? 0 : told().text.get(i));
        } else {
            due(where + "from(" + i + ")", want, () -> page.from(i), isOut ? 0 : told().owners.get(i));
        }
    }

    private void ofASign(String where, int what) {
        int number = anySign();
        told();
        Model.Sign sign = signOf(number);
        Class<? extends RuntimeException> want = sign == null ? NoSuchElementException.class : null;
        if (what == 0) {
            due(where + "line(" + number + ")", want, () -> page.line(number), sign == null ? 0 : sign.line);
        } else if (what == 1) {
            due(where + "block(" + number + ")", want, () -> page.block(number), sign == null ? 0 : sign.block);
        } else if (what == 2) {
            due(where + "twice(" + number + ")", want, () -> page.twice(number), sign == null ? 0 : sign.twice);
        } else {
            due(where + "space(" + number + ")", want, () -> page.space(number) ? 1 : 0,
                    sign != null && sign.space ? 1 : 0);
        }
    }

    private void word(String where) {
        List<int[]> words = told().words();
        int i = (int) number(-1, Math.max(0, words.size() - 1));
        int what = (int) number(0, 1);
        boolean isOut = i != -1 && (isOff(i, 0, words.size() - 1) || isOff(what, 0, 1));
        due(where + "word(" + i + ", " + what + ")", isOut ? IndexOutOfBoundsException.class : null,
                () -> page.word(i, what), isOut ? 0 : i == -1 ? words.size() : words.get(i)[what]);
    }

    private void find(String where) {
        boolean isLast = next(sought.size() > 2 && !isSeeking ? 2 : 40) == 0;
        int size = told().text.size();
        int c = isLast ? 0 : size > 0 && next(4) > 0 ? model.text.get(next(size)) : letter();
        if (c == 0) {
            List<Integer> places = model.placesOf(sought);
            due(where + "find(0)", null, () -> page.find(0), places.size());
            found = places;
            sought.clear();
            return;
        }
        boolean isWrong = isOff(c, 1, 65535);
        boolean isFull = sought.size() == 20;
        due(where + "find(" + c + ")", isWrong ? IllegalArgumentException.class
                : isFull ? UnsupportedOperationException.class : null, () -> page.find(c), sought.size() + 1);
        if (!isWrong && !isFull) {
            sought.add(c);
        }
    }

    private void found(String where) {
        int i = (int) number(0, Math.max(0, found.size() - 1));
        boolean isOut = isOff(i, 0, found.size() - 1);
        due(where + "found(" + i + ")", isOut ? IndexOutOfBoundsException.class : null, () -> page.found(i),
                isOut ? 0 : found.get(i));
    }

    private void areaOrShare(String where, boolean isArea) {
        long[] n = new long[4];
        for (int k = 0; k < 4; k++) {
            n[k] = number(-spread / 2, spread / 2);
        }
        if (isArea) {
            due(where + "area(" + n[0] + ", " + n[1] + ", " + n[2] + ", " + n[3] + ")", null,
                    () -> page.area(n[0], n[1], n[2], n[3]), told().lettersIn(n[0], n[1], n[2], n[3]));
            return;
        }
        long width = next(8) == 0 ? 0 : n[1];
        due(where + "share(" + n[0] + ", " + width + ")", width == 0 ? ArithmeticException.class : null,
                () -> page.share(n[0], width), width == 0 ? 0 : 1000 * n[0] / width);
    }
}
