import java.util.ArrayList;
import java.util.List;

/** All promises together: pages made by a fixed row of numbers, each compared with the Model. */
public final class ModelTest {
    private static final Check CHECK = new Check("ModelTest");
    private static final int PAGES = 3000;
    private static final int MOST_FOUND = 100;
    private static final int[] LETTERS = {97, 98, 45, 65, 32, 10, 122, 65533};
    private static long state = 1;
    private static int joined = 0;
    private static int manyBlocks = 0;

    public static void main(String[] args) {
        for (int page = 0; page < PAGES; page++) {
            state = page + 1;
            onePage("page " + page);
        }
        CHECK.due("pages with a joined hyphen are common", joined > PAGES / 50, true);
        CHECK.due("pages of four blocks and more are common", manyBlocks > PAGES / 20, true);
        CHECK.end();
    }

    /** A number 0 .. bound - 1, always the same in the same run. */
    private static int next(int bound) {
        state = state * 6364136223846793005L + 1442695040888963407L;
        return (int) ((state >>> 33) % bound);
    }

    private static void onePage(String name) {
        Replay page = new Replay();
        Model model = new Model();
        int codes = 1 + next(6);
        for (int i = next(8); i > 0; i--) {
            setMap(name, page, model, codes);
        }
        int most = next(20) == 0 ? 200 : next(5) == 0 ? 60 : 14;
        int kind = next(4);
        for (int rounds = 1 + next(3); rounds > 0; rounds--) {
            for (int i = next(most); i > 0 && model.signs.size() < 200; i--) {
                addSign(name, page, model, codes, kind);
            }
            for (int i = next(1 + model.signs.size() / 2); i > 0 && page.mayChange(); i--) {
                change(name, page, model, codes);
            }
            compare(name, page, model);
        }
    }

    private static void setMap(String name, Replay page, Model model, int codes) {
        int kind = next(4);
        int code = next(codes);
        int letter = next(5) == 0 ? 0 : LETTERS[next(LETTERS.length)];
        int second = letter != 0 && next(4) == 0 ? LETTERS[next(LETTERS.length)] : 0;
        int[] told = model.maps[kind][code];
        CHECK.due(name + " map", page.change(p -> p.map(kind, code, letter, second)),
                (told[0] > 0 ? 1 : 0) + (told[1] > 0 ? 1 : 0));
        told[0] = letter;
        told[1] = second;
    }

    private static void addSign(String name, Replay page, Model model, int codes, int kind) {
        int code = next(codes);
        long x = kind == 0 ? next(30) : kind == 1 ? next(40) * 6L : kind == 2 ? next(600) - 300
                : (next(3) - 1) * 1000000L;
        long y = kind == 0 ? next(30) : kind == 1 ? next(20) * 12L - next(3) : kind == 2 ? next(600) - 300
                : next(2000001) - 1000000;
        long width = next(8) == 0 ? 0 : kind == 3 ? next(1000001) : 1 + next(20);
        int size = next(20) == 0 ? 1 + next(1000) : 1 + next(16);
        CHECK.due(name + " sign", page.change(p -> p.sign(code, x, y, width, size)), model.signs.size());
        model.add(code, x, y, width, size);
    }

    private static void change(String name, Replay page, Model model, int codes) {
        Model.Sign sign = model.signs.get(next(model.signs.size()));
        int number = sign.number;
        int what = next(8);
        if (what == 0) {
            setMap(name, page, model, codes);
        } else if (what < 5) {
            boolean on = next(3) == 0;
            CHECK.due(name + " turn", page.change(p -> p.turn(number, on)), sign.turned ? 1 : 0);
            sign.turned = on;
        } else {
            int tag = next(2) == 0 ? -1 : next(8) == 0 ? 100 : next(3);
            CHECK.due(name + " tag", page.change(p -> p.tag(number, tag)), sign.tag);
            sign.tag = tag;
        }
    }

    private static void compare(String name, Replay page, Model model) {
        model.workOut();
        compareText(name, page, model);
        compareSigns(name, page, model);
        compareWords(name, page, model);
        compareFound(name, page, model);
        long x = next(700) - 350;
        long y = next(700) - 350;
        long x2 = x + next(400) - 20;
        long y2 = y + next(400) - 20;
        CHECK.due(name + " area", page.ask(p -> p.area(x, y, x2, y2)), model.lettersIn(x, y, x2, y2));
    }

    private static void compareText(String name, Replay page, Model model) {
        int length = page.ask(TextOrder::length);
        CHECK.due(name + " length()", length, model.text.size());
        for (int k = 0; k < Math.min(length, model.text.size()); k++) {
            int i = k;
            CHECK.due(name + " letter(" + i + ")", page.ask(p -> p.letter(i)), model.text.get(i));
            CHECK.due(name + " from(" + i + ")", page.ask(p -> p.from(i)), model.owners.get(i));
        }
    }

    private static void compareSigns(String name, Replay page, Model model) {
        int blocks = 0;
        int letters = 0;
        for (Model.Sign sign : model.signs) {
            int i = sign.number;
            CHECK.due(name + " line(" + i + ")", page.ask(p -> p.line(i)), sign.line);
            CHECK.due(name + " block(" + i + ")", page.ask(p -> p.block(i)), sign.block);
            CHECK.due(name + " twice(" + i + ")", page.ask(p -> p.twice(i)), sign.twice);
            CHECK.due(name + " space(" + i + ")", page.ask(p -> p.space(i) ? 1 : 0), sign.space ? 1 : 0);
            blocks = Math.max(blocks, sign.block + 1);
            letters += sign.twice == -1 ? sign.letters.size() : 0;
        }
        joined += model.owners.stream().filter(o -> o >= 0).count() < letters ? 1 : 0;
        manyBlocks += blocks >= 4 ? 1 : 0;
    }

    private static void compareWords(String name, Replay page, Model model) {
        List<int[]> words = model.words();
        int count = page.ask(p -> p.word(-1, 0));
        CHECK.due(name + " words", count, words.size());
        for (int k = 0; k < Math.min(count, words.size()); k++) {
            int i = k;
            CHECK.due(name + " word(" + i + ", 0)", page.ask(p -> p.word(i, 0)), words.get(i)[0]);
            CHECK.due(name + " word(" + i + ", 1)", page.ask(p -> p.word(i, 1)), words.get(i)[1]);
        }
    }

    private static void compareFound(String name, Replay page, Model model) {
        page.with(MOST_FOUND + 6);
        List<Integer> sought = new ArrayList<>();
        int begin = model.text.isEmpty() ? 0 : next(model.text.size());
        int end = Math.min(model.text.size(), begin + next(6));
        for (int i = begin; i < end; i++) {
            int letter = model.text.get(i);
            sought.add(letter);
            CHECK.due(name + " find", page.ask(p -> p.find(letter)), sought.size());
        }
        List<Integer> places = model.placesOf(sought);
        CHECK.due(name + " find(0)", page.ask(p -> p.find(0)), places.size());
        for (int k = 0; k < Math.min(MOST_FOUND, places.size()); k++) {
            int i = k;
            CHECK.due(name + " found(" + i + ")", page.ask(p -> p.found(i)), places.get(i));
        }
    }
}
