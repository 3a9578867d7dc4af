import java.util.Arrays;

/** Each sentence of the promises 1 to 18 that names a boundary case: a method of its own, on both sides of it. */
public final class BoundaryPromisesTest {
    private static final Check CHECK = new Check("BoundaryPromisesTest");
    private static final int P = Sample.PRIMARY_TRAILER;
    private static final int S = Sample.SECONDARY_TRAILER;
    private static final int SECOND = 5 * 256;
    private static final int MIN = Integer.MIN_VALUE;
    private static final int MAX = Integer.MAX_VALUE;
    private static final int NONE = ScratchSwap.NONE;
    private static final int DOWN = ScratchSwap.DOWN;
    private static final int IDLE = ScratchSwap.IDLE;

    private BoundaryPromisesTest() {
    }

    public static void main(String[] args) {
        usedFor512Calls();
        newObjectIsEmpty();
        feedTwentyBytes();
        feedHighestFirst();
        feedUpTo1024();
        endKeepsTheFirst();
        endRefused();
        tapedFromNoneTo1024();
        packBecomesTheImage();
        packUpTo984();
        installSlots();
        installErasesInOrder();
        installPassesBlankUnits();
        installLastUnit();
        installAnswersBytes();
        installRefused();
        requestGoodOrTrial();
        requestWhateverIsThere();
        requestRefused();
        confirmMarks();
        confirmDoesNothing();
        confirmRefused();
        bootRunsOrNot();
        bootRefused();
        cutBounds();
        cutInPlaceOfBefore();
        cutMostActs();
        cutEraseUnits();
        cutWhileDown();
        powerThatHadNotGone();
        powerDoesNotGoAgain();
        harmBounds();
        harmKeepsBits();
        harmIsNoAct();
        flashBounds();
        dueWhileDown();
        imageBounds();
        imageNotRight();
        trailerBounds();
        trailerAnswers();
        wearBounds();
        wearCountsCutOnes();
        lookBounds();
        lookDown();
        lookRuns();
        lookVersion();
        lookActs();
        lookActsLeft();
        lookBoots();
        lookExchanges();
        lookWrongs();
        lookTimesGone();
        CHECK.end();
    }

    private static void due(String call, long got, long want) {
        CHECK.due(call, got, want);
    }

    private static void due(String call, boolean got, boolean want) {
        CHECK.due(call, got, want);
    }

    private static Swap ready() {
        return Sample.ready(0, 0);
    }

    /** Version 2 runs on trial. */
    private static Swap onTrial() {
        Swap x = ready();
        x.request(false);
        x.boot();
        return x;
    }

    private static Swap down() {
        Swap x = ready();
        x.cut(0, 0);
        x.request(false);
        return x;
    }

    private static void makeWrong(Swap x, int slot) {
        x.harm(slot * SECOND + 8, 0);
        x.harm(slot * SECOND + 9, 0);
    }

    private static void usedFor512Calls() {
        CHECK.sentence("What it is", "An object is used for at most 512 calls after it has been made");
        ScratchSwap x = new ScratchSwap();
        for (int call = 1; call < 512; call++) {
            due("call " + call + ", install(0)", x.install(0), 0);
        }
        due("call 512, wear(0)", x.wear(0), 511);
    }

    private static void newObjectIsEmpty() {
        CHECK.sentence("Promise 1", "An empty FLASH, an empty TAPE; nothing RUNS; power does not go.");
        Swap x = new Swap();
        due("taped()", x.taped(), 0);
        due("end(1)", x.end(1), false);
        for (int what = 0; what <= 8; what++) {
            due("look(" + what + ")", x.look(what), what == 4 ? NONE : 0);
        }
        due("install(1) of an empty tape", x.install(1), 0);
        for (int at = 0; at < Sample.FLASH; at++) {
            due("flash(" + at + ")", x.flash(at), 255);
        }
        due("a new object knows nothing of others", new Swap().look(3), 0);
    }

    private static void feedTwentyBytes() {
        CHECK.sentence("Promise 2", "Twenty bytes come behind the TAPE, of each number the highest first: "
                + "how many it has");
        Swap x = new Swap();
        due("feed to an empty tape", x.feed(0x01020304, 0x05060708, 0x090a0b0c, 0x0d0e0f10, 0x11121314), 20);
        x.end(19);
        due("feed behind 19 bytes", x.feed(0x21222324, 0, 0, 0, 0x25262728), 39);
        x.install(0);
        int[] first = {1, 2, 3, 4, 5, 6, 7, 8, 9, 10, 11, 12, 13, 14, 15, 16, 17, 18, 19, 0x21, 0x22, 0x23, 0x24};
        Sample.same(CHECK, "in their order", x, 0, first);
        Sample.same(CHECK, "the last ones", x, 34, new int[] {0, 0x25, 0x26, 0x27, 0x28, 255});
    }

    private static void feedHighestFirst() {
        CHECK.sentence("Promise 2", "of each number the highest first");
        Swap x = new Swap();
        x.feed(0, -1, MIN, MAX, 0x80ff7f01);
        x.install(0);
        Sample.same(CHECK, "fed", x, 0, new int[] {0, 0, 0, 0, 255, 255, 255, 255, 128, 0, 0, 0, 127, 255, 255, 255,
            128, 255, 127, 1});
    }

    private static void feedUpTo1024() {
        CHECK.sentence("Promise 2", "NONE, and none come, if it would have more than 1024.");
        for (int have = 1003; have <= 1024; have++) {
            Swap x = new Swap();
            int[] row = Sample.row(have);
            Sample.feedBytes(x, row);
            boolean fits = have <= 1004;
            due("feed behind " + have, x.feed(0, 0, 0, 0, 0x01010101), fits ? have + 20 : NONE);
            due("taped()", x.taped(), fits ? have + 20 : have);
            x.install(0);
            Sample.same(CHECK, "what was there", x, 0, row);
            due("the last byte", x.flash(1023), have == 1004 ? 1 : have == 1024 ? row[1023] : 255);
        }
    }

    private static void endKeepsTheFirst() {
        CHECK.sentence("Promise 3", "The TAPE has its first n bytes alone: true");
        for (int n : new int[] {0, 1, 19, 20}) {
            Swap x = new Swap();
            x.feed(0x01020304, 0x05060708, 0x090a0b0c, 0x0d0e0f10, 0x11121314);
            due("end(" + n + ")", x.end(n), true);
            due("taped()", x.taped(), n);
            due("install(0)", x.install(0), n);
            for (int at = 0; at < 24; at++) {
                due("flash(" + at + ")", x.flash(at), at < n ? at + 1 : 255);
            }
        }
        Swap x = new Swap();
        due("end(0) of an empty tape", x.end(0), true);
        Sample.feedBytes(x, Sample.row(1024));
        due("end(1024) of a full tape", x.end(1024), true);
        due("taped()", x.taped(), 1024);
        due("end(0) of a full tape", x.end(0), true);
        due("taped()", x.taped(), 0);
    }

    private static void endRefused() {
        CHECK.sentence("Promise 3", "false, and nothing happens, if it has fewer, or n is below 0.");
        for (int have : new int[] {0, 20, 1024}) {
            Swap x = new Swap();
            int[] row = Sample.row(have);
            Sample.feedBytes(x, row);
            for (int n : new int[] {-1, have + 1, 1025, MIN, MAX, -have - 1}) {
                due("end(" + n + ") of " + have, x.end(n), false);
                due("taped()", x.taped(), have);
            }
            due("install(0)", x.install(0), have);
            Sample.same(CHECK, "its bytes", x, 0, row);
        }
    }

    private static void tapedFromNoneTo1024() {
        CHECK.sentence("Promise 4", "How many bytes the TAPE has.");
        for (int have : new int[] {0, 1, 19, 20, 21, 984, 1004, 1023, 1024}) {
            Swap x = new Swap();
            Sample.feedBytes(x, Sample.row(have));
            due("taped()", x.taped(), have);
            due("taped() again", x.taped(), have);
            x.install(0);
            due("taped(), used up", x.taped(), 0);
        }
        Swap x = down();
        x.feed(1, 2, 3, 4, 5);
        due("taped() while it is down", x.taped(), 20);
    }

    private static void packBecomesTheImage() {
        CHECK.sentence("Promise 5",
                "The TAPE becomes the IMAGE with these bytes and that VERSION: how many it has then");
        int[] versions = {0, 1, -1, MIN, MAX, 0x00ff0000, 0xff000000};
        int[] lengths = {0, 1, 984, 20, 7, 8, 983};
        for (int i = 0; i < versions.length; i++) {
            Swap x = new Swap();
            int[] image = Sample.imageByHand(lengths[i], lengths[i], versions[i]);
            Sample.feedBytes(x, Arrays.copyOfRange(image, 8, 8 + lengths[i]));
            due("pack(" + versions[i] + ") of " + lengths[i], x.pack(versions[i]), lengths[i] + 40);
            due("taped()", x.taped(), lengths[i] + 40);
            x.install(0);
            Sample.same(CHECK, "the image", x, 0, image);
            due("image(0, 1)", x.image(0, 1), lengths[i]);
            due("image(0, 2)", x.image(0, 2), versions[i]);
        }
    }

    private static void packUpTo984() {
        CHECK.sentence("Promise 5", "NONE, and it stays, if it has more than 984.");
        for (int have : new int[] {983, 984, 985, 986, 1023, 1024}) {
            Swap x = new Swap();
            int[] row = Sample.row(have);
            Sample.feedBytes(x, row);
            due("pack of " + have, x.pack(3), have <= 984 ? have + 40 : NONE);
            due("taped()", x.taped(), have <= 984 ? have + 40 : have);
            x.install(1);
            Sample.same(CHECK, "its bytes", x, have <= 984 ? SECOND + 8 : SECOND, row);
            due("image(1, 0)", x.image(1, 0), have <= 984 ? 1 : 0);
        }
        Swap x = new Swap();
        Sample.feedBytes(x, Sample.row(944));
        due("pack of 944", x.pack(1), 984);
        due("pack of that image", x.pack(2), 1024);
        due("pack of that one", x.pack(3), NONE);
        x.install(0);
        due("image(0, 1)", x.image(0, 1), 984);
        due("image(0, 2)", x.image(0, 2), 2);
    }

    private static void installSlots() {
        CHECK.sentence("Promise 6", "a slot (0 PRIMARY, 1 SECONDARY)");
        for (int slot : new int[] {MIN, -1, 0, 1, 2, 3, MAX}) {
            Swap x = ready();
            int acts = x.look(3);
            x.feed(1, 2, 3, 4, 5);
            boolean is = slot == 0 || slot == 1;
            due("install(" + slot + ")", x.install(slot), is ? 20 : NONE);
            due("acts", x.look(3) - acts, is ? 8 : 0);
            due("flash(3)", x.flash(3), slot == 0 ? 1 : 0);
            due("flash(1283)", x.flash(SECOND + 3), slot == 1 ? 1 : 0);
            due("look(1)", x.look(1), slot == 0 ? 0 : 1);
        }
    }

    private static void installErasesInOrder() {
        CHECK.sentence("Promise 6", "its four SECTORS are ERASED, from the first one on, then its TRAILER; "
                + "then the TAPE's bytes are WRITTEN there");
        for (int slot = 0; slot <= 1; slot++) {
            for (int acts = 0; acts <= 7; acts++) {
                Swap x = new Swap();
                for (int sector = 0; sector <= 10; sector++) {
                    x.harm(256 * sector + 255, 0);
                }
                Sample.feedBytes(x, Sample.row(16));
                x.cut(acts, 31);
                due("install(" + slot + "), cut(" + acts + ")", x.install(slot), acts < 7 ? DOWN : 16);
                for (int sector = 0; sector <= 10; sector++) {
                    int place = sector - 5 * slot;
                    boolean erased = place >= 0 && place <= 4 && place < acts;
                    due("sector " + sector + ", cut(" + acts + ")", x.flash(256 * sector + 255), erased ? 255 : 0);
                }
                due("unit 0, cut(" + acts + ")", x.flash(slot * SECOND), acts < 6 ? 255 : 0);
                due("unit 1, cut(" + acts + ")", x.flash(slot * SECOND + 15), acts < 7 ? 255 : Sample.row(16)[15]);
            }
        }
    }

    private static void installPassesBlankUnits() {
        CHECK.sentence("Promise 6", "(those that are eight times 255 are not;");
        int[] tape = new int[1024];
        Arrays.fill(tape, 255);
        due("acts, all 255", actsOfInstall(tape), 5);
        tape[0] = 254;
        due("acts, the first byte is 254", actsOfInstall(tape), 6);
        tape[7] = 0;
        due("acts, and the last one of that unit", actsOfInstall(tape), 6);
        tape[8] = 127;
        due("acts, and one of the next unit", actsOfInstall(tape), 7);
        tape[1023] = 254;
        due("acts, and the very last one", actsOfInstall(tape), 8);
        due("acts, an empty tape", actsOfInstall(new int[0]), 5);
        due("acts, a full tape", actsOfInstall(Sample.row(1024)), 133);
    }

    private static int actsOfInstall(int[] tape) {
        Swap x = new Swap();
        Sample.feedBytes(x, tape);
        due("install(1)", x.install(1), tape.length);
        Sample.same(CHECK, "installed", x, SECOND, tape);
        return x.look(3);
    }

    private static void installLastUnit() {
        CHECK.sentence("Promise 6", "what the last one has behind the TAPE's end is 255)");
        for (int length = 1; length <= 17; length++) {
            Swap x = new Swap();
            x.feed(0, 0, 0, 0, 0);
            x.end(length);
            x.install(0);
            for (int at = 0; at < 24; at++) {
                due("of " + length + " zeros, flash(" + at + ")", x.flash(at), at < length ? 0 : 255);
            }
        }
        Swap x = new Swap();
        x.feed(-1, 0, 0, 0, 0);
        x.end(4);
        due("install of four times 255", x.install(0), 4);
        due("that unit is eight times 255", x.look(3), 5);
    }

    private static void installAnswersBytes() {
        CHECK.sentence("Promise 6", "how many bytes.");
        for (int have : new int[] {0, 1, 8, 20, 1023, 1024}) {
            Swap x = new Swap();
            Sample.feedBytes(x, Sample.row(have));
            due("install(0) of " + have, x.install(0), have);
            due("install(0) of nothing", x.install(0), 0);
            due("flash(0)", x.flash(0), 255);
        }
    }

    private static void installRefused() {
        CHECK.sentence("Promise 6", "DOWN; NONE: there is no such slot; BUSY.");
        Swap x = onTrial();
        due("install(1), an exchange is over", x.install(1), 0);
        Sample.harmUnit(x, P, 2, 0);
        due("install(1), one is under way", x.install(1), ScratchSwap.BUSY);
        due("install(0), one is under way", x.install(0), ScratchSwap.BUSY);
        due("install(2), one is under way", x.install(2), NONE);
        due("look(1)", x.look(1), 1);
        x.cut(0, 0);
        x.request(false);
        due("install(1), down", x.install(1), DOWN);
        due("install(2), down", x.install(2), DOWN);
        x.power();
        due("install(1)", x.install(1), ScratchSwap.BUSY);
    }

    private static void requestGoodOrTrial() {
        CHECK.sentence("Promise 7", "for good or on trial: the SECONDARY TRAILER's OK is MARKED with 1 (for good), "
                + "then its MAGIC is WRITTEN: 0.");
        for (int acts = 0; acts <= 2; acts++) {
            Swap x = ready();
            x.cut(acts, 31);
            due("request(true), cut(" + acts + ")", x.request(true), acts < 2 ? DOWN : 0);
            due("OK", x.trailer(1, 3), acts < 1 ? 0 : 1);
            due("MAGIC", x.trailer(1, 0), acts < 2 ? 0 : 1);
            due("due()", x.due(), acts < 2 ? 0 : 2);
            x = ready();
            x.cut(acts, 31);
            due("request(false), cut(" + acts + ")", x.request(false), acts < 1 ? DOWN : 0);
            due("OK", x.trailer(1, 3), 0);
            due("MAGIC", x.trailer(1, 0), acts < 1 ? 0 : 1);
            due("due()", x.due(), acts < 1 ? 0 : 1);
            due("acts left", x.look(4), Math.max(acts - 1, 0));
        }
    }

    private static void requestWhateverIsThere() {
        CHECK.sentence("Promise 7", "(Both whatever is there.)");
        Swap x = ready();
        int acts = x.look(3);
        for (int again = 1; again <= 3; again++) {
            due("request(true)", x.request(true), 0);
            due("acts", x.look(3) - acts, 2 * again);
        }
        due("request(false) behind it", x.request(false), 0);
        due("acts", x.look(3) - acts, 7);
        due("OK stays", x.due(), 2);
        makeWrong(x, 1);
        due("request(true), the image is wrong", x.request(true), 0);
        due("acts", x.look(3) - acts, 9);
        Sample.harmUnit(x, P, 1, 1);
        due("request(true), one is under way", x.request(true), 0);
        Sample.harmUnit(x, S, 0, 0);
        Sample.harmUnit(x, S, 3, 0);
        due("request(true), the trailer is harmed", x.request(true), 0);
        due("acts", x.look(3) - acts, 13);
        due("MAGIC", x.trailer(1, 0), 0);
        due("OK", x.trailer(1, 3), 0);
    }

    private static void requestRefused() {
        CHECK.sentence("Promise 7", "DOWN; IDLE.");
        for (int good = 0; good <= 1; good++) {
            Swap x = ready();
            due("request, it runs", x.request(good == 1), 0);
            x.power();
            due("request, nothing runs", x.request(good == 1), IDLE);
            x = new Swap();
            due("request of a new object", x.request(good == 1), IDLE);
            due("acts", x.look(3), 0);
            x = down();
            due("request, down", x.request(good == 1), DOWN);
            x.power();
            due("request, nothing runs", x.request(good == 1), IDLE);
            due("MAGIC", x.trailer(1, 0), 0);
            x.boot();
            due("request, it runs", x.request(good == 1), 0);
        }
    }

    private static void confirmMarks() {
        CHECK.sentence("Promise 8", "What RUNS is confirmed: the PRIMARY TRAILER's OK is MARKED with 1: 1");
        Swap x = onTrial();
        int acts = x.look(3);
        due("due()", x.due(), 3);
        due("confirm()", x.confirm(), 1);
        due("acts", x.look(3) - acts, 1);
        Sample.same(CHECK, "OK", x, P + 24, new int[] {1, 1, 1, 1, 1, 1, 1, 1});
        due("due()", x.due(), 0);
        x = onTrial();
        x.cut(0, 31);
        due("confirm(), cut(0)", x.confirm(), DOWN);
        due("OK", x.trailer(0, 3), 0);
        due("due()", x.due(), 3);
        x = onTrial();
        x.cut(1, 0);
        due("confirm(), cut(1)", x.confirm(), 1);
        x = onTrial();
        Sample.harmUnit(x, P, 3, 2);
        due("confirm(), OK is 2: not SET", x.confirm(), 1);
        due("it is not SET by that", x.trailer(0, 3), 0);
        due("confirm() again", x.confirm(), 1);
    }

    private static void confirmDoesNothing() {
        CHECK.sentence("Promise 8", "0, doing nothing, if it is SET, or MAGIC is not good there.");
        Swap x = onTrial();
        x.confirm();
        int[] before = Sample.seen(x);
        due("confirm(), it is SET", x.confirm(), 0);
        Sample.unchanged(CHECK, "confirm(), it is SET", x, before);
        x = ready();
        before = Sample.seen(x);
        due("confirm(), no MAGIC", x.confirm(), 0);
        Sample.unchanged(CHECK, "confirm(), no MAGIC", x, before);
        x = onTrial();
        x.harm(P, 82);
        before = Sample.seen(x);
        due("confirm(), MAGIC is harmed", x.confirm(), 0);
        Sample.unchanged(CHECK, "confirm(), MAGIC is harmed", x, before);
        x = ready();
        x.request(false);
        due("confirm(), MAGIC is good in the other trailer", x.confirm(), 0);
        x = onTrial();
        x.confirm();
        x.cut(0, 0);
        due("confirm() does not act, so power stays", x.confirm(), 0);
        due("look(0)", x.look(0), 0);
        x = ready();
        Sample.harmMagic(x, P);
        due("confirm(), MAGIC alone is good", x.confirm(), 1);
    }

    private static void confirmRefused() {
        CHECK.sentence("Promise 8", "DOWN; IDLE.");
        due("confirm() of a new object", new Swap().confirm(), IDLE);
        Swap x = onTrial();
        x.power();
        due("confirm(), nothing runs", x.confirm(), IDLE);
        due("OK", x.trailer(0, 3), 0);
        x = onTrial();
        x.cut(0, 0);
        x.request(false);
        due("confirm(), down", x.confirm(), DOWN);
        x.power();
        due("confirm(), nothing runs", x.confirm(), IDLE);
        due("OK", x.trailer(0, 3), 0);
    }

    private static void bootRunsOrNot() {
        CHECK.sentence("Promise 9", "the PRIMARY IMAGE RUNS, if it is RIGHT: 1 it RUNS, 0 nothing does.");
        Swap x = new Swap();
        due("boot(), the flash is empty", x.boot(), 0);
        due("look(1)", x.look(1), 0);
        Sample.put(x, 1, 5, 20);
        due("boot(), the secondary image alone", x.boot(), 0);
        Sample.put(x, 0, 6, 984);
        due("look(1) ahead of boot()", x.look(1), 0);
        due("boot(), it is right", x.boot(), 1);
        due("look(2)", x.look(2), 6);
        x.harm(8, 0);
        x.harm(9, 0);
        due("boot(), it is harmed", x.boot(), 0);
        due("look(1)", x.look(1), 0);
        due("look(2)", x.look(2), 0);
    }

    private static void bootRefused() {
        CHECK.sentence("Promise 9", "0 nothing does. DOWN.");
        Swap x = down();
        due("boot(), down", x.boot(), DOWN);
        due("boots", x.look(5), 1);
        due("times power went", x.look(8), 1);
        x.power();
        due("boot(), up", x.boot(), 1);
        due("boots", x.look(5), 2);
        x = new Swap();
        x.cut(0, 0);
        due("boot() that does not act", x.boot(), 0);
        x.install(0);
        due("that boot(), down", x.boot(), DOWN);
    }

    private static void cutBounds() {
        CHECK.sentence("Promise 10", "false for acts not 0 .. 100000, units not 0 .. 31, or if it is DOWN.");
        int[] bad = {MIN, -1, 100001, 100032, MAX};
        for (int acts : bad) {
            Swap x = new Swap();
            due("cut(" + acts + ", 0)", x.cut(acts, 0), false);
            due("look(4)", x.look(4), NONE);
            due("install(0)", x.install(0), 0);
        }
        for (int units : new int[] {MIN, -1, 32, 33, 256, MAX}) {
            Swap x = new Swap();
            due("cut(0, " + units + ")", x.cut(0, units), false);
            due("look(4)", x.look(4), NONE);
            due("cut(7, 7)", x.cut(7, 7), true);
            due("cut(0, " + units + ")", x.cut(0, units), false);
            due("look(4), as told before", x.look(4), 7);
        }
        int[] good = {0, 1, 99999, 100000};
        for (int acts : good) {
            for (int units : new int[] {0, 1, 30, 31}) {
                Swap x = new Swap();
                due("cut(" + acts + ", " + units + ")", x.cut(acts, units), true);
                due("look(4)", x.look(4), acts);
                due("look(0)", x.look(0), 0);
            }
        }
    }

    private static void cutInPlaceOfBefore() {
        CHECK.sentence("Promise 10", "So many ACTS more are done, then power goes, in place of what was told before");
        Swap x = new Swap();
        x.harm(7, 0);
        x.harm(8, 0);
        x.cut(1, 31);
        x.cut(100000, 0);
        due("install(0), later than before", x.install(0), 0);
        due("acts left", x.look(4), 99995);
        x.harm(7, 0);
        x.harm(8, 0);
        x.cut(0, 1);
        due("install(0), sooner than before", x.install(0), DOWN);
        due("so many units as told last", x.flash(7), 255);
        due("and no more", x.flash(8), 0);
        due("acts", x.look(3), 5);
    }

    /** Two full images are exchanged till the most that can be told is done: 830 acts in three calls, 477 calls. */
    private static void cutMostActs() {
        CHECK.sentence("Promise 10", "acts not 0 .. 100000");
        Swap x = new Swap();
        for (int slot = 0; slot <= 1; slot++) {
            Sample.feedBytes(x, Sample.imageByHand(984, 984, slot + 1));
            x.install(slot);
        }
        due("boot()", x.boot(), 1);
        int before = x.look(3);
        due("cut(100000, 0)", x.cut(100000, 0), true);
        for (int pair = 1; pair <= 120; pair++) {
            due("request(false) " + pair, x.request(false), 0);
            due("boot(), on trial " + pair, x.boot(), 1);
            due("boot(), back " + pair, x.boot(), 1);
        }
        due("request(false)", x.request(false), 0);
        due("boot(), one act too many", x.boot(), DOWN);
        due("acts done", x.look(3) - before, 100000);
    }

    private static void cutEraseUnits() {
        CHECK.sentence("Promise 10", "of an ERASE that is cut so many UNITS are erased: true");
        for (int units : new int[] {0, 1, 30, 31}) {
            Swap x = new Swap();
            for (int at = 0; at < 264; at++) {
                x.harm(at, 0);
            }
            due("cut(0, " + units + ")", x.cut(0, units), true);
            due("install(0)", x.install(0), DOWN);
            for (int at = 0; at < 264; at++) {
                due(units + " units, flash(" + at + ")", x.flash(at), at < 8 * units ? 255 : 0);
            }
        }
    }

    private static void cutWhileDown() {
        CHECK.sentence("Promise 10", "or if it is DOWN.");
        Swap x = ready();
        x.cut(0, 0);
        due("cut(0, 0), told but not gone", x.cut(0, 0), true);
        x.request(false);
        due("cut(5, 5), down", x.cut(5, 5), false);
        due("cut(0, 0), down", x.cut(0, 0), false);
        due("look(4)", x.look(4), 0);
        x.power();
        due("look(4), nothing is told", x.look(4), NONE);
        due("cut(5, 5), up", x.cut(5, 5), true);
    }

    private static void powerThatHadNotGone() {
        CHECK.sentence("Promise 11", "Power comes (also if it had not gone: it goes and comes)");
        Swap x = ready();
        x.feed(1, 2, 3, 4, 5);
        int[] before = Sample.seen(x);
        x.power();
        due("look(1), it had not gone", x.look(1), 0);
        due("look(2), it had not gone", x.look(2), 0);
        due("look(8), not by cut()", x.look(8), 0);
        due("taped()", x.taped(), 20);
        due("boot()", x.boot(), 1);
        due("flash(0)", x.flash(0), before[0]);
        x = down();
        due("look(0)", x.look(0), 1);
        x.power();
        due("look(0), it had gone", x.look(0), 0);
        due("look(1), it had gone", x.look(1), 0);
        due("look(8), by cut()", x.look(8), 1);
        due("boot(), it had gone", x.boot(), 1);
    }

    private static void powerDoesNotGoAgain() {
        CHECK.sentence("Promise 11", "and does not go any more as told before; nothing RUNS.");
        Swap x = ready();
        x.cut(1, 0);
        x.power();
        due("look(4)", x.look(4), NONE);
        due("install(0) behind cut() and power()", x.install(0), 0);
        x = down();
        x.power();
        due("look(4)", x.look(4), NONE);
        due("install(0) behind a cut and power()", x.install(0), 0);
        due("request(true)", x.request(true), IDLE);
        x.power();
        x.power();
        due("look(0) behind power() twice", x.look(0), 0);
    }

    private static void harmBounds() {
        CHECK.sentence("Promise 12", "false, doing nothing, if there is none such.");
        Swap x = ready();
        int[] before = Sample.seen(x);
        for (int at : new int[] {MIN, -256, -1, 2816, 2817, 65536, MAX}) {
            due("harm(" + at + ", 0)", x.harm(at, 0), false);
        }
        Sample.unchanged(CHECK, "them", x, before);
        for (int at : new int[] {0, 1, 1023, 1024, 2814, 2815}) {
            due("harm(" + at + ", 0)", x.harm(at, 0), true);
            due("flash(" + at + ")", x.flash(at), 0);
        }
        due("flash(2)", x.flash(2), before[2]);
        due("flash(2813)", x.flash(2813), 255);
    }

    private static void harmKeepsBits() {
        CHECK.sentence("Promise 12", "A byte of the FLASH keeps the bits alone that b has too");
        int[] kept = {0, 1, 127, 128, 254, 255, 256, 257, -1, -256, MIN, MAX};
        int[] want = {0, 1, 127, 128, 254, 255, 0, 1, 255, 0, 0, 255};
        for (int i = 0; i < kept.length; i++) {
            Swap x = new Swap();
            due("harm(9, " + kept[i] + ")", x.harm(9, kept[i]), true);
            due("flash(9)", x.flash(9), want[i]);
            due("harm(9, 255)", x.harm(9, 255), true);
            due("flash(9), no bit comes back", x.flash(9), want[i]);
            x.harm(9, 0x55);
            due("flash(9), bits of both", x.flash(9), want[i] & 0x55);
            due("flash(8)", x.flash(8), 255);
            due("flash(10)", x.flash(10), 255);
        }
    }

    private static void harmIsNoAct() {
        CHECK.sentence("Promise 12", "(no ACT; also if it is DOWN): true");
        Swap x = ready();
        int acts = x.look(3);
        x.cut(0, 0);
        due("harm(100, 7)", x.harm(100, 7), true);
        due("flash(100)", x.flash(100), 7);
        due("look(0)", x.look(0), 0);
        due("look(3)", x.look(3), acts);
        due("look(4)", x.look(4), 0);
        due("look(1)", x.look(1), 1);
        x.request(false);
        due("look(0)", x.look(0), 1);
        due("harm(100, 3), down", x.harm(100, 3), true);
        due("flash(100), down", x.flash(100), 3);
        due("harm(2816, 3), down", x.harm(2816, 3), false);
    }

    private static void flashBounds() {
        CHECK.sentence("Promise 13", "A byte of the FLASH; NONE if there is none such. (Also if it is DOWN.)");
        for (int isDown = 0; isDown <= 1; isDown++) {
            Swap x = isDown == 1 ? down() : ready();
            due("look(0)", x.look(0), isDown);
            x.harm(0, 0);
            x.harm(2815, 200);
            for (int at : new int[] {MIN, -2816, -1, 2816, 2817, 4096, MAX}) {
                due("flash(" + at + ")", x.flash(at), NONE);
            }
            due("flash(0)", x.flash(0), 0);
            due("flash(2815)", x.flash(2815), 200);
            due("flash(2814)", x.flash(2814), 255);
        }
    }

    private static void dueWhileDown() {
        CHECK.sentence("Promise 14", "What is DUE now: 0 to 5. (Also if it is DOWN.)");
        Swap x = down();
        due("due(), down", x.due(), 0);
        Sample.harmMagic(x, S);
        due("due(), down, asked on trial", x.due(), 1);
        Sample.harmUnit(x, S, 3, 1);
        due("due(), down, asked for good", x.due(), 2);
        makeWrong(x, 1);
        due("due(), down, wrong", x.due(), 4);
        Sample.harmUnit(x, S, 1, 3);
        due("due(), down, back", x.due(), 3);
        Sample.harmUnit(x, P, 1, 1);
        due("due(), down, under way", x.due(), 5);
        x.power();
        due("due(), up", x.due(), 5);
        int acts = x.look(3);
        due("due() does nothing", x.due(), 5);
        due("acts", x.look(3), acts);
    }

    private static void imageBounds() {
        CHECK.sentence("Promise 15", "NONE for another slot or what.");
        int[] outside = {MIN, -2, -1, 2, 3, 5, MAX};
        for (int isDown = 0; isDown <= 1; isDown++) {
            Swap x = isDown == 1 ? down() : ready();
            for (int odd : outside) {
                for (int what = -1; what <= 3; what++) {
                    due("image(" + odd + ", " + what + ")", x.image(odd, what), NONE);
                }
                for (int slot = 0; slot <= 1; slot++) {
                    due("image(" + slot + ", " + odd + ")", x.image(slot, odd), odd == 2 ? slot + 1 : NONE);
                }
            }
            for (int slot = 0; slot <= 1; slot++) {
                due("image(" + slot + ", 0)", x.image(slot, 0), 1);
                due("image(" + slot + ", 1)", x.image(slot, 1), 0);
            }
        }
        Swap x = new Swap();
        due("image(0, 3) of an empty slot", x.image(0, 3), NONE);
        due("image(2, 0) of an empty flash", x.image(2, 0), NONE);
    }

    private static void imageNotRight() {
        CHECK.sentence("Promise 15",
                "what 0: 1 if it is RIGHT, else 0; if it is RIGHT 1 its LENGTH, 2 its VERSION (0 if it isn't).");
        for (int length : new int[] {0, 1, 984}) {
            for (int version : new int[] {0, -1, MIN, MAX}) {
                Swap x = new Swap();
                Sample.feedBytes(x, Sample.imageByHand(length, length, version));
                x.install(1);
                due("image(1, 0), right", x.image(1, 0), 1);
                due("image(1, 1), right", x.image(1, 1), length);
                due("image(1, 2), right", x.image(1, 2), version);
                makeWrong(x, 1);
                int last = SECOND + length + 39;
                x.harm(last, 0);
                x.harm(last - 1, 0);
                for (int what = 0; what <= 2; what++) {
                    due("image(1, " + what + "), wrong", x.image(1, what), 0);
                    due("image(0, " + what + "), empty", x.image(0, what), 0);
                }
            }
        }
    }

    private static void trailerBounds() {
        CHECK.sentence("Promise 16", "NONE for another slot or what.");
        int[] outside = {MIN, -2, -1, 5, 6, 16, MAX};
        for (int isDown = 0; isDown <= 1; isDown++) {
            Swap x = isDown == 1 ? down() : ready();
            for (int odd : outside) {
                for (int what = -1; what <= 5; what++) {
                    due("trailer(" + odd + ", " + what + ")", x.trailer(odd, what), NONE);
                }
                due("trailer(0, " + odd + ")", x.trailer(0, odd), NONE);
                due("trailer(1, " + odd + ")", x.trailer(1, odd), NONE);
            }
            due("trailer(2, 0)", x.trailer(2, 0), NONE);
            for (int what = 0; what <= 4; what++) {
                due("trailer(0, " + what + ")", x.trailer(0, what), 0);
                due("trailer(1, " + what + ")", x.trailer(1, what), 0);
            }
        }
    }

    private static void trailerAnswers() {
        CHECK.sentence("Promise 16", "what 0: 1 if MAGIC is good, else 0; 1 KIND (0 if it is not SET); "
                + "2 DONE, 3 OK (1 if SET, else 0); 4 how many STEPS are SET.");
        for (int slot = 0; slot <= 1; slot++) {
            int trailer = slot == 0 ? P : S;
            Swap x = new Swap();
            Sample.harmMagic(x, trailer);
            answers(x, slot, new int[] {1, 0, 0, 0, 0});
            Sample.harmUnit(x, trailer, 1, 3);
            answers(x, slot, new int[] {1, 3, 0, 0, 0});
            Sample.harmUnit(x, trailer, 2, 1);
            answers(x, slot, new int[] {1, 3, 1, 0, 0});
            Sample.harmUnit(x, trailer, 3, 1);
            answers(x, slot, new int[] {1, 3, 1, 1, 0});
            for (int unit = 4; unit <= 15; unit++) {
                Sample.harmUnit(x, trailer, unit, 1);
                answers(x, slot, new int[] {1, 3, 1, 1, unit - 3});
            }
            Sample.harmUnit(x, trailer, 16, 1);
            answers(x, slot, new int[] {1, 3, 1, 1, 12});
            x.harm(trailer + 4 * 8, 0);
            x.harm(trailer + 15 * 8 + 7, 0);
            answers(x, slot, new int[] {1, 3, 1, 1, 10});
            Sample.harmUnit(x, trailer, 1, 4);
            answers(x, slot, new int[] {1, 0, 1, 1, 10});
            answers(x, 1 - slot, new int[] {0, 0, 0, 0, 0});
        }
    }

    private static void answers(Swap x, int slot, int[] want) {
        for (int what = 0; what <= 4; what++) {
            due("trailer(" + slot + ", " + what + ")", x.trailer(slot, what), want[what]);
        }
    }

    private static void wearBounds() {
        CHECK.sentence("Promise 17", "NONE if there is none such.");
        Swap x = ready();
        for (int sector : new int[] {MIN, -1, 11, 12, 256, MAX}) {
            due("wear(" + sector + ")", x.wear(sector), NONE);
        }
        for (int sector = 0; sector <= 10; sector++) {
            due("wear(" + sector + ")", x.wear(sector), sector == 10 ? 0 : 1);
        }
    }

    private static void wearCountsCutOnes() {
        CHECK.sentence("Promise 17", "How often a SECTOR was ERASED (cut ones count, too)");
        for (int units : new int[] {0, 1, 31}) {
            Swap x = new Swap();
            x.cut(2, units);
            x.install(0);
            for (int sector = 0; sector <= 10; sector++) {
                due("wear(" + sector + "), cut in sector 2", x.wear(sector), sector <= 2 ? 1 : 0);
            }
            x.install(0);
            due("wear(0), refused while down", x.wear(0), 1);
            due("wear(2), refused while down", x.wear(2), 1);
            x.power();
            x.feed(1, 2, 3, 4, 5);
            x.cut(5, units);
            x.install(0);
            for (int sector = 0; sector <= 10; sector++) {
                due("wear(" + sector + "), cut in a WRITE", x.wear(sector), sector <= 2 ? 2 : sector <= 4 ? 1 : 0);
            }
        }
    }

    private static void lookBounds() {
        CHECK.sentence("Promise 18", "NONE for another what.");
        for (int isDown = 0; isDown <= 1; isDown++) {
            Swap x = isDown == 1 ? down() : ready();
            for (int what : new int[] {MIN, -1, 9, 10, MAX}) {
                due("look(" + what + ")", x.look(what), NONE);
            }
            due("look(0)", x.look(0), isDown);
            due("look(8)", x.look(8), isDown);
        }
    }

    private static void lookDown() {
        CHECK.sentence("Promise 18", "0: 1 if it is DOWN, else 0");
        Swap x = ready();
        due("look(0)", x.look(0), 0);
        x.cut(1, 0);
        due("look(0), told", x.look(0), 0);
        x.request(false);
        due("look(0), the last act is done", x.look(0), 0);
        x.request(false);
        due("look(0), one more would have come", x.look(0), 1);
        x.power();
        due("look(0), power came", x.look(0), 0);
    }

    private static void lookRuns() {
        CHECK.sentence("Promise 18", "1: 1 if something RUNS, else 0");
        Swap x = new Swap();
        due("look(1)", x.look(1), 0);
        Sample.put(x, 0, 0, 0);
        due("look(1), installed", x.look(1), 0);
        x.boot();
        due("look(1), version 0 runs", x.look(1), 1);
        x.power();
        due("look(1), power came", x.look(1), 0);
    }

    private static void lookVersion() {
        CHECK.sentence("Promise 18", "2 the VERSION of what RUNS (0 without)");
        for (int version : new int[] {0, 1, -1, MIN, MAX}) {
            Swap x = new Swap();
            Sample.put(x, 0, version, 20);
            due("look(2), nothing runs", x.look(2), 0);
            x.boot();
            due("look(2), version " + version, x.look(2), version);
            Sample.put(x, 1, 77, 0);
            due("look(2), another one stands by", x.look(2), version);
            x.install(0);
            due("look(2), installed anew", x.look(2), 0);
        }
    }

    private static void lookActs() {
        CHECK.sentence("Promise 18", "3 ACTS done (an ERASE that is cut is none)");
        for (int units = 0; units <= 31; units += 31) {
            Swap x = new Swap();
            due("look(3)", x.look(3), 0);
            x.cut(3, units);
            x.install(0);
            due("look(3), three and a cut one", x.look(3), 3);
            x.install(0);
            due("look(3), down", x.look(3), 3);
            x.power();
            x.feed(1, 2, 3, 4, 5);
            x.cut(6, units);
            x.install(0);
            due("look(3), five erased, one written", x.look(3), 9);
        }
    }

    private static void lookActsLeft() {
        CHECK.sentence("Promise 18",
                "4 how many ACTS are still done till power goes (NONE if it does not go; 0 if it is DOWN)");
        Swap x = ready();
        due("look(4), not told", x.look(4), NONE);
        x.cut(2, 0);
        due("look(4), told", x.look(4), 2);
        x.request(false);
        due("look(4), one done", x.look(4), 1);
        x.request(false);
        due("look(4), both done", x.look(4), 0);
        x.request(false);
        due("look(4), down", x.look(4), 0);
        due("look(0)", x.look(0), 1);
        x.power();
        due("look(4), power came", x.look(4), NONE);
        x.cut(100000, 31);
        due("look(4), the most", x.look(4), 100000);
        x.power();
        due("look(4), not any more", x.look(4), NONE);
    }

    private static void lookBoots() {
        CHECK.sentence("Promise 18", "5 boots that were not cut");
        Swap x = new Swap();
        x.boot();
        due("look(5), a boot without an image", x.look(5), 1);
        x = ready();
        x.request(false);
        x.cut(44, 0);
        due("boot()", x.boot(), DOWN);
        due("look(5), cut ahead of its last act", x.look(5), 1);
        x.boot();
        due("look(5), refused while down", x.look(5), 1);
        x.power();
        due("look(5), power came", x.look(5), 1);
        x.boot();
        due("look(5), gone on with", x.look(5), 2);
        x = ready();
        x.request(false);
        x.cut(45, 0);
        x.boot();
        due("look(5), its last act was the last one", x.look(5), 2);
    }

    private static void lookExchanges() {
        CHECK.sentence("Promise 18", "6 EXCHANGES that came to their end, by (g)");
        for (int acts = 43; acts <= 46; acts++) {
            Swap x = ready();
            x.request(false);
            x.cut(acts, 31);
            x.boot();
            due("look(6), cut(" + acts + ") of 45", x.look(6), acts < 45 ? 0 : 1);
        }
        Swap x = ready();
        x.boot();
        due("look(6), nothing was due", x.look(6), 0);
        x.request(true);
        makeWrong(x, 1);
        x.boot();
        due("look(6), it was wrong", x.look(6), 0);
        x = onTrial();
        due("look(6), on trial", x.look(6), 1);
        x.boot();
        due("look(6), taken back", x.look(6), 2);
        x.boot();
        due("look(6), nothing more", x.look(6), 2);
    }

    private static void lookWrongs() {
        CHECK.sentence("Promise 18", "7 how often boot() found 4 DUE and was not cut in that ERASE");
        Swap x = ready();
        makeWrong(x, 1);
        for (int time = 1; time <= 2; time++) {
            x.request(true);
            due("due()", x.due(), 4);
            due("look(7) ahead of boot()", x.look(7), time - 1);
            x.cut(0, 0);
            due("boot(), cut(0)", x.boot(), DOWN);
            due("look(7), cut", x.look(7), time - 1);
            due("due()", x.due(), 4);
            x.power();
            x.cut(1, 0);
            due("boot(), cut(1)", x.boot(), 1);
            due("look(7), not cut", x.look(7), time);
            x.power();
            x.boot();
            due("look(7), nothing was due", x.look(7), time);
        }
    }

    private static void lookTimesGone() {
        CHECK.sentence("Promise 18", "8 how often power went by cut().");
        Swap x = ready();
        x.cut(1, 0);
        due("look(8), told", x.look(8), 0);
        x.request(false);
        due("look(8), the last act is done", x.look(8), 0);
        x.request(false);
        due("look(8), it went", x.look(8), 1);
        x.request(false);
        x.boot();
        due("look(8), down", x.look(8), 1);
        x.power();
        x.power();
        due("look(8), not by power()", x.look(8), 1);
        x.cut(0, 0);
        x.install(0);
        due("look(8), it went again", x.look(8), 2);
    }
}
