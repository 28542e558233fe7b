import java.util.ArrayList;
import java.util.List;
import java.util.function.ToIntFunction;

/** One page for many calls: a new object is brought to the same state before one has had its 512 calls. */
final class Replay {
    static final int MOST_CALLS = 512;
    static final int MOST_CHANGES = 400;
    private final List<ToIntFunction<TextOrder>> changes = new ArrayList<>();
    private TextOrder page = new TextOrder();
    private int calls = 0;

    boolean mayChange() {
        return changes.size() < MOST_CHANGES;
    }

    int change(ToIntFunction<TextOrder> change) {
        int answer = with(1).applyAsInt(change);
        changes.add(change);
        return answer;
    }

    int ask(ToIntFunction<TextOrder> question) {
        return with(1).applyAsInt(question);
    }

    /** Makes sure that so many calls in a row go to one object. */
    Replay with(int more) {
        if (calls + more > MOST_CALLS) {
            page = new TextOrder();
            calls = 0;
            for (ToIntFunction<TextOrder> change : changes) {
                change.applyAsInt(page);
                calls++;
            }
        }
        return this;
    }

    private int applyAsInt(ToIntFunction<TextOrder> call) {
        calls++;
        return call.applyAsInt(page);
    }
}
