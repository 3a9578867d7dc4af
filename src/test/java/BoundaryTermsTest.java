import java.util.Arrays;

/** Each sentence of the Terms 1 and 2 that names a boundary case: a method of its own, on both sides of it. */
public final class BoundaryTermsTest {
    private static final Check CHECK = new Check("BoundaryTermsTest");
    private static final int P = Sample.PRIMARY_TRAILER;
    private static final int S = Sample.SECONDARY_TRAILER;
    private static final int SECOND = 5 * 256;
    private static final int SCRATCH = 10 * 256;
    private static final int KIND = 8;
    private static final int OK = 24;

    private BoundaryTermsTest() {
    }

    public static void main(String[] args) {
        flashHasElevenSectors();
        slotsBeginAndEnd();
        unitIsEightBytes();
        eraseIsOfOneSector();
        writeKeepsBitsOfBoth();
        copyPassesBlankUnits();
        copyBeginsAtTheFirst();
        soManyActsAreDone();
        cutEraseKeepsTheRest();
        nothingBehindTheCut();
        cutCallAnswersDown();
        downTillPower();
        imageIsLaidOut();
        digestAtItsBlocks();
        rightLengths();
        rightDigest();
        magicOfEightBytes();
        marksOfEightBytes();
        stepsAreTwelveUnits();
        stepsOfEachSector();
        setWithOneAlone();
        markWritesEightBytes();
        CHECK.end();
    }

    private static void due(String call, long got, long want) {
        CHECK.due(call, got, want);
    }

    private static void flashHasElevenSectors() {
        CHECK.sentence("Terms 1",
                "THE FLASH has 11 SECTORS of 256 bytes, all bytes 255 at first, bytes numbered from 0 on.");
        Swap x = new Swap();
        due("flash(-1)", x.flash(-1), ScratchSwap.NONE);
        for (int at = 0; at < 2816; at++) {
            due("flash(" + at + ")", x.flash(at), 255);
        }
        due("flash(2816)", x.flash(2816), ScratchSwap.NONE);
        due("wear(-1)", x.wear(-1), ScratchSwap.NONE);
        due("wear(0)", x.wear(0), 0);
        due("wear(10)", x.wear(10), 0);
        due("wear(11)", x.wear(11), ScratchSwap.NONE);
    }

    private static void slotsBeginAndEnd() {
        CHECK.sentence("Terms 1", "SECTORS 0 .. 3 are the PRIMARY slot, 4 its TRAILER; 5 .. 8 the SECONDARY slot, "
                + "9 its TRAILER; 10 is the SCRATCH.");
        int[] edges = {0, 1023, P, P + 255, SECOND, 2303, S, S + 255, SCRATCH, 2815};
        for (int slot = 0; slot <= 1; slot++) {
            Swap x = new Swap();
            for (int at : edges) {
                x.harm(at, 0);
            }
            x.install(slot);
            for (int at : edges) {
                due("install(" + slot + "), flash(" + at + ")", x.flash(at), at / 1280 == slot ? 255 : 0);
            }
        }
        Swap x = Sample.ready(0, 0);
        x.harm(SCRATCH, 0);
        x.harm(2815, 0);
        x.request(false);
        due("boot", x.boot(), 1);
        Sample.same(CHECK, "the scratch has what it was given last,", x, SCRATCH, Sample.image(2, 0, 2));
        due("flash(2815)", x.flash(2815), 255);
        due("flash(2559)", x.flash(2559), 255);
    }

    private static void unitIsEightBytes() {
        CHECK.sentence("Terms 1",
                "A UNIT is eight bytes, the first one at a multiple of 8; a SECTOR has 32, numbered from 0 on.");
        int[] lengths = {0, 1, 7, 8, 9, 255, 256, 257, 1016, 1017, 1023, 1024};
        int[] units = {0, 1, 1, 1, 2, 32, 32, 33, 127, 128, 128, 128};
        for (int i = 0; i < lengths.length; i++) {
            Swap x = new Swap();
            Sample.feedBytes(x, Sample.row(lengths[i]));
            due("install", x.install(1), lengths[i]);
            due("acts for " + lengths[i] + " bytes", x.look(3), 5 + units[i]);
        }
        Swap x = zeroSector(0);
        x.cut(0, 31);
        x.install(0);
        due("unit 30 ends at", x.flash(247), 255);
        due("unit 31 begins at", x.flash(248), 0);
        due("unit 31 ends at", x.flash(255), 0);
    }

    private static Swap zeroSector(int sector) {
        Swap x = new Swap();
        for (int i = 0; i < 256; i++) {
            x.harm(256 * sector + i, 0);
        }
        return x;
    }

    private static void eraseIsOfOneSector() {
        CHECK.sentence("Terms 1", "to ERASE a SECTOR (all its bytes are 255 then)");
        Swap x = Sample.ready(0, 0);
        x.request(false);
        for (int at = S + 8; at < S + 256; at++) {
            x.harm(at, 0);
        }
        x.harm(S - 1, 0);
        x.harm(S + 256, 0);
        x.harm(SECOND + 8, 0);
        x.harm(SECOND + 9, 0);
        due("due", x.due(), 4);
        due("boot", x.boot(), 1);
        for (int at = S; at < S + 256; at++) {
            due("flash(" + at + ")", x.flash(at), 255);
        }
        due("the byte ahead", x.flash(S - 1), 0);
        due("the byte behind", x.flash(S + 256), 0);
    }

    private static void writeKeepsBitsOfBoth() {
        CHECK.sentence("Terms 1",
                "to WRITE a UNIT (each of its bytes becomes the bits that it and the new one both have)");
        Swap x = Sample.ready(0, 0);
        int[] there = {254, 1, 3, 255, 128, 129, 2, 0};
        for (int i = 0; i < 8; i++) {
            x.harm(S + OK + i, there[i]);
        }
        x.harm(S, 15);
        x.harm(S + 7, 0);
        due("request(true)", x.request(true), 0);
        Sample.same(CHECK, "OK", x, S + OK - 1, new int[] {255, 0, 1, 1, 1, 0, 1, 0, 0, 255});
        Sample.same(CHECK, "MAGIC", x, S - 1, new int[] {255, 3, 87, 65, 80, 45, 79, 75, 0, 255});
        due("MAGIC is not good", x.trailer(1, 0), 0);
        due("OK is not SET", x.trailer(1, 3), 0);
    }

    /** Of two images of 40 bytes five units are copied in each of the three steps of sector 0. */
    private static void copyPassesBlankUnits() {
        CHECK.sentence("Terms 1", "each of its UNITS that is not eight times 255 is WRITTEN there");
        due("acts, three sectors blank", actsOfTrial(Sample.ready(0, 0)), 45);
        for (int unit = 0; unit < 32; unit += 31) {
            for (int i = 0; i < 8; i += 7) {
                int in = 256 * 3 + 8 * unit + i;
                Swap x = Sample.ready(0, 0);
                x.harm(SECOND + in, 254);
                due("acts, one byte 254", actsOfTrial(x), 47);
                due("the byte goes along", x.flash(in), 254);
                due("it is away from here", x.flash(SECOND + in), 255);
                x = Sample.ready(0, 0);
                x.harm(in, 254);
                due("acts, one byte 254 of the primary slot", actsOfTrial(x), 46);
                due("that byte goes along", x.flash(SECOND + in), 254);
            }
        }
        Swap x = new Swap();
        putFull(x, 0);
        putFull(x, 1);
        x.boot();
        due("acts, all units full", actsOfTrial(x), 3 + 12 * 34 + 3);
    }

    private static int actsOfTrial(Swap x) {
        x.request(false);
        int before = x.look(3);
        due("boot", x.boot(), 1);
        return x.look(3) - before;
    }

    private static void putFull(Swap x, int slot) {
        Sample.feedBytes(x, Sample.imageByHand(984, 984, slot));
        x.install(slot);
    }

    private static void copyBeginsAtTheFirst() {
        CHECK.sentence("Terms 1", "each of its UNITS that is not eight times 255 is WRITTEN there, "
                + "from the first one on.");
        for (int written = 0; written <= 32; written++) {
            Swap x = new Swap();
            putFull(x, 0);
            putFull(x, 1);
            x.boot();
            x.request(false);
            x.cut(4 + written, 0);
            due("boot", x.boot(), ScratchSwap.DOWN);
            for (int i = 0; i < 256; i++) {
                int want = i < 8 * written ? x.flash(SECOND + 768 + i) : 255;
                due(written + " units, byte " + i, x.flash(SCRATCH + i), want);
            }
        }
    }

    private static void soManyActsAreDone() {
        CHECK.sentence("Terms 1", "then so many ACTS are still done; where one more would come it is not");
        for (int acts = 5; acts <= 7; acts++) {
            Swap x = new Swap();
            Sample.feedBytes(x, Sample.row(8));
            x.cut(acts, 31);
            due("install of six acts, cut(" + acts + ")", x.install(0), acts < 6 ? ScratchSwap.DOWN : 8);
            due("acts done", x.look(3), Math.min(acts, 6));
            due("acts left", x.look(4), Math.max(acts - 6, 0));
            due("down", x.look(0), acts < 6 ? 1 : 0);
            due("the last one", x.flash(7), acts < 6 ? 255 : Sample.row(8)[7]);
        }
        Swap x = Sample.ready(0, 0);
        x.cut(0, 0);
        due("confirm() without an act", x.confirm(), 0);
        due("boot() without an act", x.boot(), 1);
        due("down", x.look(0), 0);
        due("request() has one", x.request(false), ScratchSwap.DOWN);
        due("down", x.look(0), 1);
    }

    private static void cutEraseKeepsTheRest() {
        CHECK.sentence("Terms 1", "of an ERASE that is cut so the first UNITS, as many as told, are erased");
        for (int units = 0; units <= 31; units++) {
            Swap x = zeroSector(1);
            x.cut(1, units);
            due("install", x.install(0), ScratchSwap.DOWN);
            for (int i = 0; i < 256; i++) {
                due(units + " units, byte " + i, x.flash(256 + i), i < 8 * units ? 255 : 0);
            }
        }
    }

    private static void nothingBehindTheCut() {
        CHECK.sentence("Terms 1", "nor anything behind it: the memory is DOWN.");
        Swap x = zeroSector(2);
        x.harm(0, 0);
        x.harm(256, 0);
        Sample.feedBytes(x, Sample.row(16));
        x.cut(1, 0);
        due("install", x.install(0), ScratchSwap.DOWN);
        due("the first sector was erased ahead", x.flash(0), 255);
        due("the second one was cut", x.flash(256), 0);
        due("the third one stays", x.flash(512), 0);
        due("wear of the third one", x.wear(2), 0);
        x.power();
        Sample.feedBytes(x, Sample.row(24));
        x.cut(6, 31);
        due("install, cut in a WRITE", x.install(0), ScratchSwap.DOWN);
        Sample.same(CHECK, "the unit ahead", x, 0, Sample.row(8));
        for (int at = 8; at < 24; at++) {
            due("of a WRITE that is cut nothing, flash(" + at + ")", x.flash(at), 255);
        }
        due("down", x.look(0), 1);
    }

    private static void cutCallAnswersDown() {
        CHECK.sentence("Terms 1", "The call in which that comes answers DOWN");
        for (int acts = 0; acts <= 6; acts++) {
            Swap x = new Swap();
            Sample.feedBytes(x, Sample.row(8));
            x.cut(acts, 3);
            due("install, cut(" + acts + ")", x.install(0), acts < 6 ? ScratchSwap.DOWN : 8);
        }
        for (int acts = 0; acts <= 2; acts++) {
            Swap x = Sample.ready(0, 0);
            x.cut(acts, 3);
            due("request(true), cut(" + acts + ")", x.request(true), acts < 2 ? ScratchSwap.DOWN : 0);
            x = Sample.ready(0, 0);
            x.cut(acts, 3);
            due("request(false), cut(" + acts + ")", x.request(false), acts < 1 ? ScratchSwap.DOWN : 0);
            x = Sample.ready(0, 0);
            x.request(false);
            x.boot();
            x.cut(acts, 3);
            due("confirm(), cut(" + acts + ")", x.confirm(), acts < 1 ? ScratchSwap.DOWN : 1);
        }
        for (int acts = 0; acts <= 45; acts++) {
            Swap x = Sample.ready(0, 0);
            x.request(false);
            x.cut(acts, 3);
            due("boot(), cut(" + acts + ")", x.boot(), acts < 45 ? ScratchSwap.DOWN : 1);
        }
    }

    private static void downTillPower() {
        CHECK.sentence("Terms 1", "and so does each other that could ACT, doing nothing, till power().");
        Swap x = Sample.ready(20, 20);
        x.request(true);
        x.cut(30, 0);
        x.boot();
        int[] before = Sample.seen(x);
        int[] slots = {-1, 0, 1, 2};
        for (int slot : slots) {
            due("install(" + slot + ")", x.install(slot), ScratchSwap.DOWN);
        }
        due("request(true)", x.request(true), ScratchSwap.DOWN);
        due("request(false)", x.request(false), ScratchSwap.DOWN);
        due("confirm()", x.confirm(), ScratchSwap.DOWN);
        due("boot()", x.boot(), ScratchSwap.DOWN);
        Sample.unchanged(CHECK, "the refused calls", x, before);
        due("feed could not act", x.feed(1, 2, 3, 4, 5), 20);
        due("nor could pack", x.pack(1), 60);
        due("nor could taped", x.taped(), 60);
        x.power();
        due("request", x.request(true), ScratchSwap.IDLE);
        due("confirm", x.confirm(), ScratchSwap.IDLE);
        due("install", x.install(0), ScratchSwap.BUSY);
        due("boot", x.boot(), 1);
    }

    private static void imageIsLaidOut() {
        CHECK.sentence("Terms 2", "an INT n (four bytes, the lowest first), its LENGTH; an INT, its VERSION; "
                + "n bytes; 32 bytes, SHA-256 (FIPS 180-4) of all ahead.");
        int[] lengths = {0, 1, 255, 256, 257, 983, 984};
        int[] versions = {0, -1, 255, 256, 0x01020304, Integer.MIN_VALUE, Integer.MAX_VALUE};
        for (int i = 0; i < lengths.length; i++) {
            int[] image = Sample.imageByHand(lengths[i], lengths[i], versions[i]);
            Swap x = new Swap();
            Sample.feedBytes(x, Arrays.copyOfRange(image, 8, 8 + lengths[i]));
            due("pack", x.pack(versions[i]), lengths[i] + 40);
            x.install(1);
            Sample.same(CHECK, "packed", x, SECOND, image);
            Sample.feedBytes(x, image);
            due("install by hand", x.install(0), lengths[i] + 40);
            due("length", x.image(0, 1), lengths[i]);
            due("version", x.image(0, 2), versions[i]);
        }
    }

    /** A block of SHA-256 is 64 bytes; its padding needs nine of them. */
    private static void digestAtItsBlocks() {
        CHECK.sentence("Terms 2", "32 bytes, SHA-256 (FIPS 180-4) of all ahead.");
        int[] ahead = {8, 9, 54, 55, 56, 57, 63, 64, 65, 118, 119, 120, 121, 127, 128, 129, 512, 951, 952, 959, 960,
            961, 983, 984, 991, 992};
        for (int bytes : ahead) {
            Swap x = new Swap();
            Sample.feedBytes(x, Sample.imageByHand(bytes - 8, bytes - 8, bytes));
            x.install(0);
            due("image with " + bytes + " bytes ahead of the digest", x.image(0, 0), 1);
            x.pack(bytes);
            x.install(1);
            Sample.same(CHECK, "packed of nothing", x, SECOND, Sample.imageByHand(0, 0, bytes));
        }
    }

    private static void rightLengths() {
        CHECK.sentence("Terms 2", "It is RIGHT, if n is 0 to 984");
        for (int slot = 0; slot <= 1; slot++) {
            byHand(slot, 0, 0, 1);
            byHand(slot, 1, 1, 1);
            byHand(slot, 983, 983, 1);
            byHand(slot, 984, 984, 1);
            byHand(slot, -1, -1, 0);
            byHand(slot, -4, -4, 0);
            byHand(slot, -20, 20, 0);
            byHand(slot, 985, 985, 0);
            byHand(slot, 20, 20, 1);
            byHand(slot, 19, 20, 0);
            byHand(slot, 21, 20, 0);
            byHand(slot, 256 + 20, 20, 0);
            byHand(slot, 65536 + 20, 20, 0);
            byHand(slot, 0x01000000 + 20, 20, 0);
            byHand(slot, Integer.MIN_VALUE + 20, 20, 0);
            byHand(slot, Integer.MIN_VALUE, 0, 0);
            byHand(slot, Integer.MAX_VALUE, 984, 0);
            byHand(slot, Integer.MAX_VALUE - 39, 984, 0);
        }
    }

    /** Of 985 bytes the digest's last one comes to lie in the trailer, where harm() can put it. */
    private static void byHand(int slot, int told, int length, int right) {
        int[] image = Sample.imageByHand(told, length, 7);
        Swap x = new Swap();
        Sample.feedBytes(x, Arrays.copyOf(image, Math.min(image.length, 1024)));
        x.install(slot);
        for (int i = 1024; i < image.length; i++) {
            x.harm(slot * SECOND + i, image[i]);
        }
        Sample.same(CHECK, "by hand", x, slot * SECOND, image);
        String name = "n told " + told + ", digest for " + length + ", image(" + slot;
        due(name + ", 0)", x.image(slot, 0), right);
        due(name + ", 1)", x.image(slot, 1), right == 1 ? told : 0);
        due(name + ", 2)", x.image(slot, 2), right == 1 ? 7 : 0);
        if (slot == 0) {
            due(name + "), boot()", x.boot(), right);
        }
    }

    private static void rightDigest() {
        CHECK.sentence("Terms 2", "It is RIGHT, if n is 0 to 984 and the digest is right.");
        int[] image = Sample.imageByHand(30, 30, 0x01020304);
        for (int slot = 0; slot <= 1; slot++) {
            for (int i = 0; i <= image.length; i++) {
                Swap x = new Swap();
                Sample.feedBytes(x, image);
                x.install(slot);
                int at = slot * SECOND + i;
                int before = x.flash(at);
                x.harm(at, before & before - 1);
                boolean harmed = before != 0 && i < image.length;
                due("image(" + slot + ", 0), byte " + i + " harmed", x.image(slot, 0), harmed ? 0 : 1);
            }
        }
    }

    private static void magicOfEightBytes() {
        CHECK.sentence("Terms 2", "0 the MAGIC, good if its bytes are 83, 87, 65, 80, 45, 79, 75, 33");
        for (int slot = 0; slot <= 1; slot++) {
            int trailer = slot == 0 ? P : S;
            for (int i = 0; i < 8; i++) {
                Swap x = new Swap();
                for (int k = 0; k < 8; k++) {
                    x.harm(trailer + k, Sample.MAGIC[k] | (k == i ? 128 : 0));
                }
                due("byte " + i + " has a bit more", x.trailer(slot, 0), 0);
                x.harm(trailer + i, 127);
                due("all eight are right", x.trailer(slot, 0), 1);
                x.harm(trailer + i, Sample.MAGIC[i] - 1);
                due("byte " + i + " has a bit less", x.trailer(slot, 0), 0);
            }
        }
    }

    private static void marksOfEightBytes() {
        CHECK.sentence("Terms 2", "SET with k (1, 2, 3), if all eight bytes are k, else not SET");
        for (int slot = 0; slot <= 1; slot++) {
            int trailer = slot == 0 ? P : S;
            for (int k : new int[] {0, 1, 2, 3, 4, 5, 6, 7, 128, 129, 254, 255}) {
                Swap x = new Swap();
                Sample.harmUnit(x, trailer, 1, k);
                due("eight times " + k, x.trailer(slot, 1), k <= 3 ? k : 0);
            }
            for (int i = 0; i < 8; i++) {
                Swap x = new Swap();
                for (int k = 0; k < 8; k++) {
                    x.harm(trailer + KIND + k, k == i ? 255 : 3);
                }
                due("byte " + i + " is 255", x.trailer(slot, 1), 0);
                x.harm(trailer + KIND + i, 3);
                due("eight times 3", x.trailer(slot, 1), 3);
                x.harm(trailer + KIND + i, 2);
                due("byte " + i + " is 2", x.trailer(slot, 1), 0);
            }
        }
    }

    private static void stepsAreTwelveUnits() {
        CHECK.sentence("Terms 2", "4 to 15 the STEPS");
        for (int slot = 0; slot <= 1; slot++) {
            for (int unit = 0; unit < 32; unit++) {
                Swap x = new Swap();
                Sample.harmUnit(x, slot == 0 ? P : S, unit, 1);
                due("unit " + unit + ", trailer(" + slot + ", 4)", x.trailer(slot, 4), unit >= 4 && unit <= 15 ? 1 : 0);
            }
        }
    }

    /** An exchange is cut behind each of its steps: the units that are marked by then. */
    private static void stepsOfEachSector() {
        CHECK.sentence("Terms 2", "STEP k (0, 1, 2) of SECTOR j (0 .. 3) is UNIT 4 + 3 j + k.");
        Swap x = new Swap();
        Sample.harmUnit(x, P, 1, 1);
        for (int j = 3; j >= 0; j--) {
            for (int k = 0; k <= 2; k++) {
                x.cut(2, 0);
                due("boot(), the flash is blank: a step has two acts", x.boot(), ScratchSwap.DOWN);
                x.power();
                for (int unit = 2; unit < 32; unit++) {
                    boolean ofLater = unit >= 4 + 3 * (j + 1) && unit <= 15;
                    boolean ofThis = unit >= 4 + 3 * j && unit <= 4 + 3 * j + k;
                    due("STEP " + k + " of " + j + ", UNIT " + unit, x.flash(P + 8 * unit), ofLater || ofThis ? 1 : 255);
                }
            }
        }
    }

    private static void setWithOneAlone() {
        CHECK.sentence("Terms 2", "(DONE, OK, STEPS are SET, if SET with 1.");
        for (int slot = 0; slot <= 1; slot++) {
            for (int k = 0; k <= 4; k++) {
                Swap x = new Swap();
                for (int unit = 2; unit <= 15; unit++) {
                    Sample.harmUnit(x, slot == 0 ? P : S, unit, k);
                }
                due("DONE with " + k, x.trailer(slot, 2), k == 1 ? 1 : 0);
                due("OK with " + k, x.trailer(slot, 3), k == 1 ? 1 : 0);
                due("STEPS with " + k, x.trailer(slot, 4), k == 1 ? 12 : 0);
            }
        }
    }

    private static void markWritesEightBytes() {
        CHECK.sentence("Terms 2", "To MARK one: to WRITE eight times that number.)");
        Swap x = Sample.ready(0, 0);
        x.request(true);
        Sample.same(CHECK, "OK of the secondary trailer", x, S + OK - 1, new int[] {255, 1, 1, 1, 1, 1, 1, 1, 1, 255});
        x = Sample.ready(0, 0);
        Sample.harmUnit(x, S, 3, 2);
        x.request(true);
        due("1 upon 2 leaves 0", x.flash(S + OK), 0);
        due("OK", x.trailer(1, 3), 0);
        x = Sample.ready(0, 0);
        Sample.harmUnit(x, S, 3, 3);
        x.request(true);
        due("1 upon 3 leaves 1", x.flash(S + OK), 1);
        due("OK", x.trailer(1, 3), 1);
    }
}
