import java.util.ArrayList;
import java.util.List;
import java.util.function.ToIntFunction;

/**
 * An object of ScratchSwap that a test may ask as often as it likes. The document promises nothing of an object
 * behind its 512th call: ahead of the next one a new object is brought to where this one stood, by all calls again
 * that could change something. If one of them answers otherwise then, a call that should only look did more.
 */
final class Swap {
    static final int MOST_CALLS = 512;

    private record Change(ToIntFunction<ScratchSwap> call, int answer) {
    }

    private final List<Change> changes = new ArrayList<>();
    private ScratchSwap object = new ScratchSwap();
    private int calls = 0;

    /** How many calls were made that could change something: a test can't go beyond 511 of them and still look. */
    int changes() {
        return changes.size();
    }

    private int change(ToIntFunction<ScratchSwap> call) {
        int answer = ask(call);
        changes.add(new Change(call, answer));
        return answer;
    }

    private int ask(ToIntFunction<ScratchSwap> call) {
        if (calls == MOST_CALLS) {
            beginAnew();
        }
        calls++;
        return call.applyAsInt(object);
    }

    private void beginAnew() {
        if (changes.size() >= MOST_CALLS) {
            throw new IllegalStateException("this test needs more than 512 calls of one object");
        }
        object = new ScratchSwap();
        calls = changes.size();
        for (int i = 0; i < calls; i++) {
            int answer = changes.get(i).call.applyAsInt(object);
            if (answer != changes.get(i).answer) {
                throw new IllegalStateException("call " + i + " answered " + changes.get(i).answer
                        + " among calls that look, and " + answer + " without them");
            }
        }
    }

    private static int number(boolean answer) {
        return answer ? 1 : 0;
    }

    int feed(int a, int b, int c, int d, int e) {
        return change(x -> x.feed(a, b, c, d, e));
    }

    boolean end(int n) {
        return change(x -> number(x.end(n))) == 1;
    }

    int taped() {
        return ask(ScratchSwap::taped);
    }

    int pack(int version) {
        return change(x -> x.pack(version));
    }

    int install(int slot) {
        return change(x -> x.install(slot));
    }

    int request(boolean good) {
        return change(x -> x.request(good));
    }

    int confirm() {
        return change(ScratchSwap::confirm);
    }

    int boot() {
        return change(ScratchSwap::boot);
    }

    boolean cut(int acts, int units) {
        return change(x -> number(x.cut(acts, units))) == 1;
    }

    void power() {
        change(x -> {
            x.power();
            return 0;
        });
    }

    boolean harm(int at, int b) {
        return change(x -> number(x.harm(at, b))) == 1;
    }

    int flash(int at) {
        return ask(x -> x.flash(at));
    }

    int due() {
        return ask(ScratchSwap::due);
    }

    int image(int slot, int what) {
        return ask(x -> x.image(slot, what));
    }

    int trailer(int slot, int what) {
        return ask(x -> x.trailer(slot, what));
    }

    int wear(int sector) {
        return ask(x -> x.wear(sector));
    }

    int look(int what) {
        return ask(x -> x.look(what));
    }
}
