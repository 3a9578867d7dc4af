import java.util.function.IntSupplier;

/** Each sentence of the Terms 3 and behind them (what is due, boot(), what runs, what is refused) at its boundary. */
public final class BoundaryBootTest {
    private static final Check CHECK = new Check("BoundaryBootTest");
    private static final int P = Sample.PRIMARY_TRAILER;
    private static final int S = Sample.SECONDARY_TRAILER;
    private static final int SECOND = 5 * 256;
    private static final int KIND = 1;
    private static final int DONE = 2;
    private static final int OK = 3;

    private BoundaryBootTest() {
    }

    public static void main(String[] args) {
        startsNothingWrong();
        underWay();
        theFirstThatHolds();
        resumeIsFirst();
        backByTheSecondaryKind();
        kindOrMagic();
        kindBesideMagic();
        rightElseWrong();
        backByThePrimaryTrailer();
        elseNothing();
        wrongErasesOneTrailer();
        kindIsMarkedIfNotSet();
        primaryTrailerBegins();
        stepsThatAreNotSet();
        stepsInTheirOrder();
        stepIsErasedCopiedMarked();
        okIsMarkedIfNotSet();
        exchangeIsOverByDone();
        magicAndDoneWhateverIsThere();
        whateverWasDue();
        runsTill();
        refusedChangesNothing();
        theOneToldFirst();
        usesTheTapeUp();
        CHECK.end();
    }

    private static void due(String call, long got, long want) {
        CHECK.due(call, got, want);
    }

    private static Swap ready() {
        return Sample.ready(0, 0);
    }

    private static void makeWrong(Swap x, int slot) {
        x.harm(slot * SECOND + 8, 0);
        x.harm(slot * SECOND + 9, 0);
        due("image(" + slot + ", 0)", x.image(slot, 0), 0);
    }

    private static int actsOfBoot(Swap x, int answer) {
        int before = x.look(3);
        due("boot()", x.boot(), answer);
        return x.look(3) - before;
    }

    private static void underWay() {
        CHECK.sentence("Terms 3",
                "AN EXCHANGE is UNDER WAY, if the PRIMARY TRAILER's KIND is SET and its DONE is not.");
        for (int kind = 0; kind <= 4; kind++) {
            for (int done = 0; done <= 4; done++) {
                Swap x = ready();
                Sample.harmUnit(x, P, KIND, kind);
                Sample.harmUnit(x, P, DONE, done);
                boolean under = kind >= 1 && kind <= 3 && done != 1;
                String name = "KIND " + kind + " DONE " + done;
                due(name + ", due()", x.due(), under ? 5 : 0);
                due(name + ", install(1)", x.install(1), under ? ScratchSwap.BUSY : 0);
                due(name + ", install(0)", x.install(0), under ? ScratchSwap.BUSY : 0);
            }
        }
        Swap x = ready();
        Sample.harmUnit(x, P, KIND, 1);
        due("DONE is blank", x.due(), 5);
        x.harm(P + 15, 0);
        due("seven bytes of KIND", x.due(), 0);
        x = ready();
        Sample.harmUnit(x, S, KIND, 1);
        due("KIND of the secondary trailer alone", x.due(), 1);
        due("install(1)", x.install(1), 0);
    }

    /** All four hold; one after the other is taken away. */
    private static void theFirstThatHolds() {
        CHECK.sentence("Terms 3", "What is DUE: the first of these that holds.");
        Swap x = ready();
        Sample.harmMagic(x, P);
        Sample.harmUnit(x, P, KIND, 1);
        Sample.harmUnit(x, S, KIND, 3);
        Sample.harmMagic(x, S);
        due("all hold", x.due(), 5);
        Sample.harmUnit(x, P, DONE, 1);
        due("not under way", x.due(), 3);
        Sample.harmUnit(x, S, KIND, 1);
        due("KIND of the secondary trailer is not 3", x.due(), 1);
        Sample.harmUnit(x, S, KIND, 0);
        due("it is not SET", x.due(), 1);
        x.harm(S, 0);
        due("nor is MAGIC good", x.due(), 3);
        x.harm(P, 0);
        due("nor that of the primary trailer", x.due(), 0);
    }

    private static void resumeIsFirst() {
        CHECK.sentence("Terms 3", "5 RESUME: one is UNDER WAY.");
        for (int kind = 0; kind <= 3; kind++) {
            Swap x = ready();
            Sample.harmUnit(x, S, KIND, kind);
            makeWrong(x, 1);
            makeWrong(x, 0);
            Sample.harmUnit(x, P, KIND, 2);
            due("KIND " + kind + " in the secondary trailer, images wrong", x.due(), 5);
            Sample.harmUnit(x, P, DONE, 1);
            due("DONE", x.due(), kind == 3 ? 3 : kind == 0 ? 0 : 4);
        }
    }

    private static void backByTheSecondaryKind() {
        CHECK.sentence("Terms 3", "The SECONDARY TRAILER's KIND is SET with 3: 3 BACK.");
        Swap x = ready();
        Sample.harmUnit(x, S, KIND, 3);
        due("the image is right", x.due(), 3);
        makeWrong(x, 1);
        due("whatever the image is", x.due(), 3);
        Sample.harmMagic(x, S);
        Sample.harmUnit(x, S, OK, 1);
        due("whatever MAGIC and OK are", x.due(), 3);
        x.harm(S + 8, 2);
        due("a byte of KIND is 2, so MAGIC counts", x.due(), 4);
    }

    private static void kindOrMagic() {
        CHECK.sentence("Terms 3",
                "That KIND is SET with 1 or 2, or its MAGIC is good (KIND is 2 then, if OK is SET, else 1)");
        for (int kind = 0; kind <= 4; kind++) {
            Swap x = ready();
            Sample.harmUnit(x, S, KIND, kind);
            due("KIND " + kind + " without MAGIC", x.due(), kind == 4 ? 0 : kind);
        }
        for (int ok = 0; ok <= 4; ok++) {
            Swap x = ready();
            Sample.harmUnit(x, S, OK, ok);
            due("OK " + ok + " alone", x.due(), 0);
            Sample.harmMagic(x, S);
            due("OK " + ok + " with MAGIC", x.due(), ok == 1 ? 2 : 1);
        }
        Swap x = ready();
        Sample.harmMagic(x, S);
        due("MAGIC alone", x.due(), 1);
        x.harm(S + 7, 32);
        due("MAGIC not good", x.due(), 0);
        x = ready();
        Sample.harmMagic(x, P);
        due("MAGIC of the primary trailer", x.due(), 0);
    }

    /** The document's "then" is read as: if it is MAGIC alone that holds. */
    private static void kindBesideMagic() {
        CHECK.sentence("Terms 3", "or its MAGIC is good (KIND is 2 then, if OK is SET, else 1): that KIND");
        for (int kind = 1; kind <= 2; kind++) {
            for (int ok = 1; ok <= 2; ok++) {
                Swap x = ready();
                Sample.harmMagic(x, S);
                Sample.harmUnit(x, S, OK, ok);
                due("MAGIC, OK " + ok, x.due(), ok == 1 ? 2 : 1);
                Sample.harmUnit(x, S, KIND, kind);
                due("MAGIC, OK " + ok + ", KIND " + kind, x.due(), kind);
            }
        }
    }

    private static void rightElseWrong() {
        CHECK.sentence("Terms 3", "that KIND, if the SECONDARY IMAGE is RIGHT, else 4 WRONG.");
        for (int kind = 1; kind <= 2; kind++) {
            Swap x = ready();
            x.request(kind == 2);
            due("request, right", x.due(), kind);
            makeWrong(x, 0);
            due("the primary image is not asked", x.due(), kind);
            makeWrong(x, 1);
            due("request, wrong", x.due(), 4);
            x = ready();
            Sample.harmUnit(x, S, KIND, kind);
            due("KIND, right", x.due(), kind);
            makeWrong(x, 1);
            due("KIND, wrong", x.due(), 4);
        }
        Swap x = new Swap();
        Sample.put(x, 0, 1, 0);
        x.boot();
        x.request(true);
        due("an empty slot", x.due(), 4);
    }

    private static void backByThePrimaryTrailer() {
        CHECK.sentence("Terms 3",
                "The PRIMARY TRAILER's MAGIC is good, its KIND SET with 1, DONE SET, OK not: 3 BACK.");
        due("all four", primary(0, 1, 1, 0).due(), 3);
        due("MAGIC not good", primary(1, 1, 1, 0).due(), 0);
        due("KIND 0", primary(0, 0, 1, 0).due(), 0);
        due("KIND 2", primary(0, 2, 1, 0).due(), 0);
        due("KIND 3", primary(0, 3, 1, 0).due(), 0);
        due("DONE 2", primary(0, 1, 2, 0).due(), 5);
        due("OK 1", primary(0, 1, 1, 1).due(), 0);
        due("OK 2", primary(0, 1, 1, 2).due(), 3);
        Swap x = primary(0, 1, 1, 0);
        makeWrong(x, 1);
        makeWrong(x, 0);
        due("whatever the images are", x.due(), 3);
        Sample.harmMagic(x, S);
        due("but behind what the secondary trailer asks for", x.due(), 4);
    }

    private static Swap primary(int magicLost, int kind, int done, int ok) {
        Swap x = ready();
        Sample.harmMagic(x, P);
        x.harm(P, 255 - magicLost);
        Sample.harmUnit(x, P, KIND, kind);
        Sample.harmUnit(x, P, DONE, done);
        Sample.harmUnit(x, P, OK, ok);
        return x;
    }

    private static void elseNothing() {
        CHECK.sentence("Terms 3", "Else 0, nothing.");
        Swap x = new Swap();
        due("a new object", x.due(), 0);
        due("acts of its boot()", actsOfBoot(x, 0), 0);
        x = ready();
        due("two images", x.due(), 0);
        due("acts of boot()", actsOfBoot(x, 1), 0);
        x.request(false);
        due("asked for", x.due(), 1);
    }

    private static void wrongErasesOneTrailer() {
        CHECK.sentence("Terms 3", "boot(): of 4 the SECONDARY TRAILER is ERASED.");
        Swap x = ready();
        makeWrong(x, 1);
        x.request(true);
        Sample.harmUnit(x, S, 31, 0);
        int[] wear = new int[11];
        for (int sector = 0; sector <= 10; sector++) {
            wear[sector] = x.wear(sector);
        }
        due("acts", actsOfBoot(x, 1), 1);
        for (int sector = 0; sector <= 10; sector++) {
            due("wear(" + sector + ")", x.wear(sector), wear[sector] + (sector == 9 ? 1 : 0));
        }
        for (int i = 0; i < 256; i++) {
            due("its byte " + i, x.flash(S + i), 255);
        }
        due("due()", x.due(), 0);
        due("acts again", actsOfBoot(x, 1), 0);
    }

    private static void kindIsMarkedIfNotSet() {
        CHECK.sentence("Terms 3", "(a) if the SECONDARY TRAILER's KIND is not SET with that, it is MARKED so");
        for (int kind = 1; kind <= 3; kind++) {
            Swap x = ready();
            Sample.harmUnit(x, S, KIND, kind);
            due("acts, KIND " + kind + " is SET", actsOfBoot(x, 1), kind == 1 ? 44 : 45);
        }
        for (int kind = 1; kind <= 2; kind++) {
            Swap x = ready();
            x.request(kind == 2);
            x.cut(1, 0);
            x.boot();
            due("KIND is marked first", x.trailer(1, 1), kind);
            x.power();
            due("acts of the rest", actsOfBoot(x, 1), kind == 1 ? 44 : 45);
            x = ready();
            x.request(kind == 2);
            due("acts, KIND is not SET", actsOfBoot(x, 1), kind == 1 ? 45 : 46);
        }
        Swap x = ready();
        x.request(false);
        x.boot();
        x.cut(1, 0);
        x.boot();
        due("BACK is marked in the secondary trailer", x.trailer(1, 1), 3);
    }

    private static void primaryTrailerBegins() {
        CHECK.sentence("Terms 3", "(b) the PRIMARY TRAILER is ERASED; (c) its KIND is MARKED so.");
        for (int kind = 1; kind <= 3; kind++) {
            Swap x = ready();
            Sample.harmUnit(x, S, KIND, kind);
            for (int unit = 2; unit <= 31; unit++) {
                Sample.harmUnit(x, P, unit, 1);
            }
            x.cut(0, 31);
            x.boot();
            due("cut in (b), its last unit stays", x.flash(P + 255), 1);
            due("its others don't", x.trailer(0, 4), 0);
            x.power();
            x.cut(1, 0);
            x.boot();
            due("erased", x.flash(P + 255), 255);
            due("KIND is not marked yet", x.trailer(0, 1), 0);
            due("the same is due", x.due(), kind);
            x.power();
            x.cut(2, 0);
            x.boot();
            due("KIND is marked", x.trailer(0, 1), kind);
            due("under way", x.due(), 5);
            due("no step yet", x.trailer(0, 4), 0);
        }
    }

    /** All steps but one are SET: that one alone is done. */
    private static void stepsThatAreNotSet() {
        CHECK.sentence("Terms 3", "of each for its STEPS 0, 1, 2, if that STEP is not SET");
        for (int left = 4; left <= 15; left++) {
            for (int mark = 1; mark <= 3; mark++) {
                Swap x = marked();
                Sample.harmUnit(x, P, KIND, 1);
                for (int unit = 4; unit <= 15; unit++) {
                    Sample.harmUnit(x, P, unit, unit == left ? mark : 1);
                }
                stepDoneAlone(x, left, mark);
            }
        }
        Swap x = marked();
        Sample.harmUnit(x, P, KIND, 1);
        due("no step is SET", x.trailer(0, 4), 0);
        x.boot();
        for (int j = 0; j <= 3; j++) {
            due("wear of sector " + j, x.wear(j), 1);
            due("wear of sector 5 + " + j, x.wear(5 + j), 1);
        }
        due("wear of the scratch", x.wear(10), 4);
    }

    /** In each sector that an exchange touches, the first byte is the sector's number. */
    private static Swap marked() {
        Swap x = new Swap();
        for (int sector = 0; sector <= 10; sector++) {
            if (sector != 4 && sector != 9) {
                x.harm(256 * sector, sector);
            }
        }
        return x;
    }

    private static void stepDoneAlone(Swap x, int unit, int mark) {
        int j = (unit - 4) / 3;
        int k = (unit - 4) % 3;
        int from = k == 0 ? 5 + j : k == 1 ? j : 10;
        int to = k == 0 ? 10 : k == 1 ? 5 + j : j;
        String name = "UNIT " + unit + " is " + mark + ", the others 1: ";
        due(name + "acts", actsOfBoot(x, 0), mark == 1 ? 3 : 6);
        for (int sector = 0; sector <= 10; sector++) {
            boolean done = mark != 1 && sector == to;
            due(name + "wear(" + sector + ")", x.wear(sector), done || sector == 9 ? 1 : 0);
            if (sector != 4 && sector != 9) {
                due(name + "sector " + sector, x.flash(256 * sector), done ? from : sector);
            }
        }
        due(name + "the STEP", x.flash(P + 8 * unit), mark == 2 ? 0 : 1);
        due(name + "over", x.trailer(0, 2), 1);
    }

    private static void stepsInTheirOrder() {
        CHECK.sentence("Terms 3", "then for the SECTORS j 3, 2, 1, 0, of each for its STEPS 0, 1, 2");
        Swap x = marked();
        Sample.harmUnit(x, P, KIND, 1);
        for (int step = 0; step < 12; step++) {
            int unit = 4 + 3 * (3 - step / 3) + step % 3;
            x.cut(2, 0);
            due("boot(), the STEP is not marked", x.boot(), ScratchSwap.DOWN);
            due("steps", x.trailer(0, 4), step);
            x.power();
            x.cut(3, 0);
            due("boot(), the STEP is marked", x.boot(), ScratchSwap.DOWN);
            due("steps", x.trailer(0, 4), step + 1);
            due("it is UNIT " + unit, x.flash(P + 8 * unit), 1);
            x.power();
        }
        due("boot()", x.boot(), 0);
        for (int j = 0; j <= 3; j++) {
            due("sector " + j, x.flash(256 * j), 5 + j);
            due("sector 5 + " + j, x.flash(256 * (5 + j)), j);
        }
    }

    private static void stepIsErasedCopiedMarked() {
        CHECK.sentence("Terms 3", "0: the SCRATCH is ERASED, SECTOR 5 + j COPIED to it; 1: SECTOR 5 + j is ERASED, "
                + "SECTOR j COPIED to it; 2: SECTOR j is ERASED, the SCRATCH COPIED to it; then the STEP is MARKED "
                + "with 1.");
        int[] to = {10, 8, 3};
        int[] from = {8, 3, 8};
        for (int k = 0; k <= 2; k++) {
            for (int acts = 0; acts <= 3; acts++) {
                Swap x = marked();
                Sample.harmUnit(x, P, KIND, 1);
                x.cut(3 * k + acts, 0);
                due("boot()", x.boot(), ScratchSwap.DOWN);
                String name = "STEP " + k + " of 3, " + acts + " acts: ";
                due(name + "the sector", x.flash(256 * to[k]), acts < 1 ? to[k] : acts < 2 ? 255 : from[k]);
                due(name + "the steps", x.trailer(0, 4), acts < 3 ? k : k + 1);
                due(name + "wear", x.wear(to[k]), 1);
            }
        }
    }

    private static void okIsMarkedIfNotSet() {
        CHECK.sentence("Terms 3",
                "(e) if the KIND is 2 or 3, and the PRIMARY TRAILER's OK is not SET, it is MARKED");
        for (int kind = 1; kind <= 3; kind++) {
            for (int ok = 0; ok <= 3; ok++) {
                Swap x = lastSteps(kind);
                if (ok != 0) {
                    Sample.harmUnit(x, P, OK, ok);
                }
                boolean marked = kind != 1 && ok != 1;
                due("KIND " + kind + " OK " + ok + ", acts", actsOfBoot(x, 1), marked ? 4 : 3);
                int byteDue = !marked && ok == 0 ? 255 : !marked ? ok : ok == 2 ? 0 : 1;
                due("KIND " + kind + " OK " + ok + ", its byte", x.flash(P + 8 * OK), byteDue);
            }
        }
    }

    /** An exchange under way whose twelve steps are done. */
    private static Swap lastSteps(int kind) {
        Swap x = ready();
        Sample.harmUnit(x, P, KIND, kind);
        for (int unit = 4; unit <= 15; unit++) {
            Sample.harmUnit(x, P, unit, 1);
        }
        return x;
    }

    private static void exchangeIsOverByDone() {
        CHECK.sentence("Terms 3", "(d) the SECONDARY TRAILER is ERASED; (e) if the KIND is 2 or 3, and the PRIMARY "
                + "TRAILER's OK is not SET, it is MARKED; (f) its MAGIC is WRITTEN; (g) its DONE is MARKED with 1: "
                + "the EXCHANGE is over.");
        for (int acts = 0; acts <= 4; acts++) {
            Swap x = lastSteps(2);
            x.request(true);
            x.harm(S + 255, 0);
            x.cut(acts, 31);
            String name = "cut(" + acts + ") ";
            due(name + "boot()", x.boot(), acts < 4 ? ScratchSwap.DOWN : 1);
            due(name + "(d)", x.flash(S + 255), acts < 1 ? 0 : 255);
            due(name + "(e)", x.trailer(0, 3), acts < 2 ? 0 : 1);
            due(name + "(f)", x.trailer(0, 0), acts < 3 ? 0 : 1);
            due(name + "(g)", x.trailer(0, 2), acts < 4 ? 0 : 1);
            due(name + "over", x.look(6), acts < 4 ? 0 : 1);
            due(name + "due()", x.due(), acts < 4 ? 5 : 0);
        }
    }

    private static void magicAndDoneWhateverIsThere() {
        CHECK.sentence("Terms 3", "(f) its MAGIC is WRITTEN; (g) its DONE is MARKED with 1: the EXCHANGE is over.");
        Swap x = lastSteps(1);
        Sample.harmMagic(x, P);
        due("MAGIC is good, acts", actsOfBoot(x, 1), 3);
        x = lastSteps(1);
        Sample.harmUnit(x, P, 0, 0);
        due("MAGIC can't be good any more, acts", actsOfBoot(x, 1), 3);
        due("MAGIC", x.trailer(0, 0), 0);
        due("DONE", x.trailer(0, 2), 1);
        due("nothing is taken back without MAGIC", x.due(), 0);
        x = lastSteps(1);
        Sample.harmUnit(x, P, DONE, 3);
        due("1 upon 3, acts", actsOfBoot(x, 1), 3);
        due("DONE", x.trailer(0, 2), 1);
        x = lastSteps(1);
        Sample.harmUnit(x, P, DONE, 2);
        due("1 upon 2, acts", actsOfBoot(x, 1), 3);
        due("DONE can't be SET any more", x.trailer(0, 2), 0);
        due("so it is under way still", x.due(), 5);
    }

    private static void whateverWasDue() {
        CHECK.sentence("Terms 3", "At last, whatever was DUE: if the PRIMARY IMAGE is RIGHT, it RUNS.");
        for (int what = 0; what <= 5; what++) {
            Swap x = asked(what);
            int runs = what == 0 || what == 4 ? 1 : 2;
            due("due " + what + ", boot()", x.boot(), 1);
            due("due " + what + ", look(1)", x.look(1), 1);
            due("due " + what + ", look(2)", x.look(2), runs);
        }
        for (int what = 0; what <= 5; what++) {
            Swap x = asked(what);
            if (what == 3 || what == 5) {
                makeWrong(x, 1);
            } else {
                makeWrong(x, 0);
            }
            boolean exchanged = what == 1 || what == 2;
            due("due " + what + ", one image wrong, boot()", x.boot(), exchanged ? 1 : 0);
            due("due " + what + ", one image wrong, look(1)", x.look(1), exchanged ? 1 : 0);
            due("due " + what + ", one image wrong, look(2)", x.look(2), exchanged ? 2 : 0);
        }
    }

    private static Swap asked(int what) {
        Swap x = ready();
        if (what == 1 || what == 2) {
            x.request(what == 2);
        }
        if (what == 3) {
            Sample.harmUnit(x, S, KIND, 3);
        }
        if (what == 4) {
            x.request(true);
            makeWrong(x, 1);
        }
        if (what == 5) {
            Sample.harmUnit(x, P, KIND, 1);
        }
        due("due()", x.due(), what);
        return x;
    }

    /** Each bit of an image that can be taken from it, ahead of a boot that has nothing to do. */
    private static void startsNothingWrong() {
        CHECK.sentence("What it is", "and it starts nothing whose digest is wrong");
        int[] image = Sample.imageByHand(5, 5, 0x01020304);
        for (int i = 0; i < 8 * image.length; i++) {
            int at = i / 8;
            int bit = 1 << i % 8;
            boolean taken = (image[at] & bit) != 0;
            Swap x = new Swap();
            Sample.feedBytes(x, image);
            x.install(0);
            due("boot() of a right one", x.boot(), 1);
            x.harm(at, 255 - bit);
            String name = "byte " + at + " without bit " + bit + ": ";
            due(name + "boot()", x.boot(), taken ? 0 : 1);
            due(name + "look(1)", x.look(1), taken ? 0 : 1);
            due(name + "look(2)", x.look(2), taken ? 0 : 0x01020304);
            due(name + "request(true)", x.request(true), taken ? ScratchSwap.IDLE : 0);
            due(name + "confirm()", x.confirm(), taken ? ScratchSwap.IDLE : 0);
        }
    }

    private static void runsTill() {
        CHECK.sentence("Terms 3",
                "What RUNS does so till power goes or comes, boot() begins, or the PRIMARY slot is installed anew.");
        Swap x = ready();
        runs("boot()", x, 1);
        x.cut(6, 0);
        runs("cut() alone", x, 1);
        x.install(1);
        runs("install(1)", x, 1);
        x.install(2);
        runs("install(2)", x, 1);
        x.request(false);
        runs("request()", x, 1);
        x.confirm();
        runs("confirm()", x, 1);
        x.request(false);
        runs("request() in which power went", x, 0);
        x.power();
        runs("power()", x, 0);
        x.boot();
        runs("boot()", x, 1);
        x.power();
        runs("power() without a cut", x, 0);
        x = ready();
        x.install(0);
        runs("install(0)", x, 0);
        x = ready();
        Sample.harmUnit(x, P, KIND, 1);
        x.install(0);
        runs("install(0) that was refused", x, 1);
        x.cut(0, 0);
        x.boot();
        runs("boot() in which power went", x, 0);
        x = ready();
        makeWrong(x, 0);
        runs("harm()", x, 1);
        x.boot();
        runs("boot() that finds no right image", x, 0);
        x = ready();
        x.cut(0, 31);
        x.install(1);
        runs("install(1) in which power went", x, 0);
        x = ready();
        x.request(false);
        x.boot();
        x.cut(0, 0);
        x.confirm();
        runs("confirm() in which power went", x, 0);
    }

    private static void runs(String behind, Swap x, int want) {
        due("look(1) behind " + behind, x.look(1), want);
        due("look(2) behind " + behind, x.look(2) != 0, want == 1);
    }

    private static void due(String call, boolean got, boolean want) {
        CHECK.due(call, got, want);
    }

    private static void refusedChangesNothing() {
        CHECK.sentence("Terms 3", "A call that is refused (below 0) changes nothing but what is said.");
        Swap x = ready();
        Sample.harmUnit(x, P, KIND, 1);
        x.cut(7, 7);
        refused("install(-1)", x, () -> x.install(-1), ScratchSwap.NONE);
        refused("install(2)", x, () -> x.install(2), ScratchSwap.NONE);
        refused("install(0)", x, () -> x.install(0), ScratchSwap.BUSY);
        refused("install(1)", x, () -> x.install(1), ScratchSwap.BUSY);
        refused("flash(2816)", x, () -> x.flash(2816), ScratchSwap.NONE);
        refused("image(2, 0)", x, () -> x.image(2, 0), ScratchSwap.NONE);
        refused("image(0, 3)", x, () -> x.image(0, 3), ScratchSwap.NONE);
        refused("trailer(2, 0)", x, () -> x.trailer(2, 0), ScratchSwap.NONE);
        refused("trailer(0, 5)", x, () -> x.trailer(0, 5), ScratchSwap.NONE);
        refused("wear(11)", x, () -> x.wear(11), ScratchSwap.NONE);
        refused("look(9)", x, () -> x.look(9), ScratchSwap.NONE);
        Sample.feedBytes(x, Sample.row(1005));
        refused("feed", x, () -> x.feed(1, 2, 3, 4, 5), ScratchSwap.NONE);
        refused("pack", x, () -> x.pack(9), ScratchSwap.NONE);
        due("taped()", x.taped(), 1005);
        x.power();
        refused("request(true), idle", x, () -> x.request(true), ScratchSwap.IDLE);
        refused("request(false), idle", x, () -> x.request(false), ScratchSwap.IDLE);
        refused("confirm(), idle", x, () -> x.confirm(), ScratchSwap.IDLE);
        x.cut(3, 3);
        x.boot();
        refused("request(true), down", x, () -> x.request(true), ScratchSwap.DOWN);
        refused("confirm(), down", x, () -> x.confirm(), ScratchSwap.DOWN);
        refused("boot(), down", x, () -> x.boot(), ScratchSwap.DOWN);
        due("taped()", x.taped(), 1005);
        refused("install(0), down", x, () -> x.install(0), ScratchSwap.DOWN);
        due("taped(), as is said of install", x.taped(), 0);
    }

    private static void refused(String call, Swap x, IntSupplier refusal, int want) {
        int[] before = Sample.seen(x);
        due(call, refusal.getAsInt(), want);
        Sample.unchanged(CHECK, call, x, before);
    }

    private static void theOneToldFirst() {
        CHECK.sentence("Terms 3", "Of several answers below 0 the one told first.");
        Swap x = ready();
        due("install(2)", x.install(2), ScratchSwap.NONE);
        Sample.harmUnit(x, P, KIND, 1);
        due("install(0), busy", x.install(0), ScratchSwap.BUSY);
        due("install(2), busy", x.install(2), ScratchSwap.NONE);
        due("install(-1), busy", x.install(-1), ScratchSwap.NONE);
        x.cut(0, 0);
        x.boot();
        due("install(0), busy and down", x.install(0), ScratchSwap.DOWN);
        due("install(2), busy and down", x.install(2), ScratchSwap.DOWN);
        due("request(true), down and idle", x.request(true), ScratchSwap.DOWN);
        due("confirm(), down and idle", x.confirm(), ScratchSwap.DOWN);
        x.power();
        due("request(true), idle", x.request(true), ScratchSwap.IDLE);
        due("confirm(), idle", x.confirm(), ScratchSwap.IDLE);
        due("install(2), busy", x.install(2), ScratchSwap.NONE);
        due("install(1), busy", x.install(1), ScratchSwap.BUSY);
    }

    private static void usesTheTapeUp() {
        CHECK.sentence("Terms 3", "\"Uses the TAPE up\": it is empty behind the call, whatever comes of it.");
        Swap x = ready();
        tapeUsedUp("done", x, 1, 20);
        tapeUsedUp("no such slot", x, 2, ScratchSwap.NONE);
        tapeUsedUp("no such slot", x, -1, ScratchSwap.NONE);
        x.cut(2, 0);
        tapeUsedUp("cut", x, 1, ScratchSwap.DOWN);
        tapeUsedUp("down", x, 1, ScratchSwap.DOWN);
        tapeUsedUp("down, no such slot", x, 2, ScratchSwap.DOWN);
        x.power();
        Sample.harmUnit(x, P, KIND, 1);
        tapeUsedUp("busy", x, 0, ScratchSwap.BUSY);
        x.feed(1, 2, 3, 4, 5);
        x.boot();
        x.request(true);
        due("taped() behind other calls", x.taped(), 20);
    }

    private static void tapeUsedUp(String name, Swap x, int slot, int answer) {
        due("feed", x.feed(1, 2, 3, 4, 5), 20);
        due("install(" + slot + "), " + name, x.install(slot), answer);
        due("taped(), " + name, x.taped(), 0);
    }
}
