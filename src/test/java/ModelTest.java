import java.util.Random;

/** Runs of calls drawn from a fixed seed, each answer beside the model's, and the whole flash at the end. */
public final class ModelTest {
    private static final Check CHECK = new Check("ModelTest");
    private static final int RUNS = 3000;
    private static final int MOST_OF_A_TURN = 24;

    private final Random random;
    private final Swap x = new Swap();
    private final Model m = new Model();
    private final int run;

    private ModelTest(int run) {
        this.run = run;
        random = new Random(run);
    }

    public static void main(String[] args) {
        int[] dues = new int[6];
        for (int run = 0; run < RUNS; run++) {
            new ModelTest(run).go(dues);
        }
        for (int due = 0; due <= 5; due++) {
            CHECK.due("the runs came upon due " + due, dues[due] > RUNS / 10, true);
        }
        CHECK.end();
    }

    private void go(int[] dues) {
        int most = mostChanges() - MOST_OF_A_TURN;
        for (int turn = 0; x.changes() < most; turn++) {
            one();
            if (turn % 8 == 0) {
                look();
                dues[m.due()]++;
            }
        }
        for (int at = -1; at <= 2816; at++) {
            due("flash(" + at + ")", x.flash(at), m.flash(at));
        }
    }

    /** Every fiftieth run goes near an object's last call; the others are short: the new objects of Swap cost less. */
    private int mostChanges() {
        return run % 50 == 0 ? Swap.MOST_CALLS - 1 : 250;
    }

    private void due(String call, long got, long want) {
        CHECK.due("run " + run + " " + call, got, want);
    }

    private void due(String call, boolean got, boolean want) {
        CHECK.due("run " + run + " " + call, got, want);
    }

    private int any(int bound) {
        return random.nextInt(bound);
    }

    private int number() {
        int[] few = {0, -1, 1, 255, -256, 0xffff0000, random.nextInt()};
        return few[any(few.length)];
    }

    private void one() {
        int pick = any(100);
        if (pick < 12) {
            feed();
        } else if (pick < 16) {
            int n = any(4) == 0 ? number() : any(m.taped() + 3) - 1;
            due("end", x.end(n), m.end(n));
        } else if (pick < 24) {
            int version = number();
            due("pack", x.pack(version), m.pack(version));
        } else if (pick < 32) {
            install(any(10) == 0 ? number() : any(2));
        } else if (pick < 44) {
            boolean good = any(2) == 0;
            due("request", x.request(good), m.request(good));
        } else if (pick < 48) {
            due("confirm", x.confirm(), m.confirm());
        } else if (pick < 66) {
            due("boot", x.boot(), m.boot());
        } else if (pick < 76) {
            int acts = any(12) == 0 ? number() : any(any(2) == 0 ? 12 : 150);
            int units = any(12) == 0 ? number() : any(33);
            due("cut", x.cut(acts, units), m.cut(acts, units));
        } else if (pick < 88) {
            x.power();
            m.power();
        } else if (pick < 94) {
            harm();
        } else {
            ready();
        }
    }

    private void feed() {
        for (int i = any(6); i >= 0; i--) {
            int a = number();
            int b = number();
            int c = number();
            int d = number();
            int e = number();
            due("feed", x.feed(a, b, c, d, e), m.feed(a, b, c, d, e));
        }
    }

    private void install(int slot) {
        due("install(" + slot + ")", x.install(slot), m.install(slot));
        due("taped", x.taped(), m.taped());
    }

    /** Without it too few runs would have two right images and something that runs. */
    private void ready() {
        x.power();
        m.power();
        for (int slot = 0; slot <= 1; slot++) {
            due("end(0)", x.end(0), m.end(0));
            feed();
            int version = number();
            due("pack", x.pack(version), m.pack(version));
            install(slot);
        }
        due("boot", x.boot(), m.boot());
    }

    private void harm() {
        int kind = any(4);
        if (kind == 0) {
            int at = any(2) == 0 ? number() : any(2816);
            int b = number();
            due("harm", x.harm(at, b), m.harm(at, b));
            return;
        }
        int trailer = any(2) == 0 ? Sample.PRIMARY_TRAILER : Sample.SECONDARY_TRAILER;
        int unit = any(17);
        int k = any(5);
        for (int i = 0; i < (kind == 1 ? 7 : 8); i++) {
            int b = unit == 0 ? Sample.MAGIC[i] : k;
            due("harm", x.harm(trailer + 8 * unit + i, b), m.harm(trailer + 8 * unit + i, b));
        }
    }

    private void look() {
        due("due", x.due(), m.due());
        due("taped", x.taped(), m.taped());
        for (int what = -1; what <= 9; what++) {
            due("look(" + what + ")", x.look(what), m.look(what));
        }
        for (int slot = -1; slot <= 2; slot++) {
            for (int what = -1; what <= 5; what++) {
                due("trailer", x.trailer(slot, what), m.trailer(slot, what));
                due("image", x.image(slot, what), m.image(slot, what));
            }
        }
        for (int sector = -1; sector <= 11; sector++) {
            due("wear(" + sector + ")", x.wear(sector), m.wear(sector));
        }
    }
}
