import java.util.function.IntUnaryOperator;

/** Pages for tests, and all that an object tells, as one text. */
final class Pages {
    static final int WIDTH = 5;
    static final int SIZE = 10;

    private Pages() {
    }

    /** A page on which map 0 tells codes 1 .. 127 as letters of their own numbers; some 380 calls are left. */
    static TextOrder lettered() {
        TextOrder page = new TextOrder();
        for (int code = 1; code < 128; code++) {
            page.map(0, code, code, 0);
        }
        return page;
    }

    /** Sets a row of signs side by side, five wide and ten high; answers the number of the last. */
    static int row(TextOrder page, String codes, long x, long y) {
        int last = -1;
        for (int i = 0; i < codes.length(); i++) {
            last = page.sign(codes.charAt(i), x + (long) i * WIDTH, y, WIDTH, SIZE);
        }
        return last;
    }

    /** The text, with | for 10, # for 65533 and _ for 32. */
    static String text(TextOrder page) {
        StringBuilder text = new StringBuilder();
        for (int i = 0; i < page.length(); i++) {
            int letter = page.letter(i);
            text.append(letter == 10 ? '|' : letter == 32 ? '_' : letter == 65533 ? '#' : (char) letter);
        }
        return text.toString();
    }

    static String owners(TextOrder page) {
        return each(page.length(), page::from);
    }

    static String lines(TextOrder page, int signs) {
        return each(signs, page::line);
    }

    static String blocks(TextOrder page, int signs) {
        return each(signs, page::block);
    }

    static String doubles(TextOrder page, int signs) {
        return each(signs, page::twice);
    }

    private static String each(int count, IntUnaryOperator answer) {
        StringBuilder answers = new StringBuilder();
        for (int i = 0; i < count; i++) {
            answers.append(i == 0 ? "" : ",").append(answer.applyAsInt(i));
        }
        return answers.toString();
    }

    static String spaces(TextOrder page, int signs) {
        StringBuilder spaces = new StringBuilder();
        for (int i = 0; i < signs; i++) {
            spaces.append(page.space(i) ? '1' : '0');
        }
        return spaces.toString();
    }

    static String words(TextOrder page) {
        StringBuilder words = new StringBuilder();
        for (int i = 0; i < page.word(-1, 0); i++) {
            words.append(i == 0 ? "" : ",").append(page.word(i, 0)).append('+').append(page.word(i, 1));
        }
        return words.toString();
    }

    static String told(TextOrder page, int signs) {
        return text(page) + " of " + owners(page) + " lines " + lines(page, signs) + " blocks "
                + blocks(page, signs) + " doubles " + doubles(page, signs) + " spaces " + spaces(page, signs)
                + " words " + words(page);
    }
}
