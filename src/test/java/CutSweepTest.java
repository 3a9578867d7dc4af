/** Power goes ahead of every single act of an exchange, and within every erasing: the next boot ends it. */
public final class CutSweepTest {
    private static final Check CHECK = new Check("CutSweepTest");
    private static final int FIRST = 130;
    private static final int SECOND = 600;

    private CutSweepTest() {
    }

    public static void main(String[] args) {
        for (int kind = 1; kind <= 3; kind++) {
            int acts = actsOf(kind);
            for (int cut = 0; cut < acts; cut++) {
                for (int units = 0; units < 32; units += 31) {
                    cutOnce(kind, cut, units, acts);
                }
                cutTwice(kind, cut, cut % 32);
            }
            cutBehindTheLast(kind, acts);
        }
        CHECK.end();
    }

    /** An object whose next boot does a whole exchange of that kind. */
    private static Swap asked(int kind) {
        Swap x = Sample.ready(FIRST, SECOND);
        x.request(kind == 2);
        if (kind == 3) {
            x.boot();
        }
        CHECK.due("due", x.due(), kind);
        return x;
    }

    private static int actsOf(int kind) {
        Swap x = asked(kind);
        int before = x.look(3);
        x.boot();
        return x.look(3) - before;
    }

    private static void cutOnce(int kind, int cut, int units, int acts) {
        String name = "kind " + kind + " cut(" + cut + ", " + units + ") ";
        Swap x = asked(kind);
        int boots = x.look(5);
        int before = x.look(3);
        x.cut(cut, units);
        CHECK.due(name + "boot", x.boot(), ScratchSwap.DOWN);
        CHECK.due(name + "acts", x.look(3), before + cut);
        CHECK.due(name + "boots", x.look(5), boots);
        CHECK.due(name + "down", x.look(0), 1);
        CHECK.due(name + "runs", x.look(1), 0);
        x.power();
        CHECK.due(name + "goes on", x.due() != 0, true);
        CHECK.due(name + "boot again", x.boot(), 1);
        ended(name, kind, x);
        CHECK.due(name + "gone", x.look(8), 1);
        CHECK.due(name + "no act is done twice but by its step", x.look(3) - before < acts + 80, true);
    }

    private static void cutTwice(int kind, int cut, int units) {
        String name = "kind " + kind + " cut twice at " + cut + " ";
        Swap x = asked(kind);
        x.cut(cut, units);
        x.boot();
        x.power();
        x.cut(cut / 2, 31 - units);
        int answer = x.boot();
        CHECK.due(name + "boot", answer == 1 || answer == ScratchSwap.DOWN, true);
        x.power();
        if (x.look(6) == (kind == 3 ? 1 : 0)) {
            CHECK.due(name + "boot again", x.boot(), 1);
            ended(name, kind, x);
        }
    }

    private static void cutBehindTheLast(int kind, int acts) {
        Swap x = asked(kind);
        x.cut(acts, 5);
        CHECK.due("kind " + kind + " cut behind the last act", x.boot(), 1);
        CHECK.due("none left", x.look(4), 0);
        ended("kind " + kind + " not cut ", kind, x);
    }

    private static void ended(String name, int kind, Swap x) {
        int[] one = Sample.image(1, FIRST, 1);
        int[] two = Sample.image(2, SECOND, 2);
        Sample.same(CHECK, name + "primary", x, 0, kind == 3 ? one : two);
        Sample.same(CHECK, name + "secondary", x, 5 * 256, kind == 3 ? two : one);
        CHECK.due(name + "kind", x.trailer(0, 1), kind);
        CHECK.due(name + "done", x.trailer(0, 2), 1);
        CHECK.due(name + "ok", x.trailer(0, 3), kind == 1 ? 0 : 1);
        CHECK.due(name + "steps", x.trailer(0, 4), 12);
        CHECK.due(name + "magic", x.trailer(0, 0), 1);
        CHECK.due(name + "exchanges", x.look(6), kind == 3 ? 2 : 1);
        CHECK.due(name + "due", x.due(), kind == 1 ? 3 : 0);
    }
}
