/** A method for each promise of the document: ordinary inputs, the edges that it names, wrong inputs. */
public final class PromiseTest {
    private static final int[] ODD = {-1, Integer.MIN_VALUE, Integer.MAX_VALUE};
    private static final Check CHECK = new Check("PromiseTest");

    private PromiseTest() {
    }

    public static void main(String[] args) {
        promise1New();
        promise2Feed();
        promise2FeedLimit();
        promise3End();
        promise4Taped();
        promise5Pack();
        promise6Install();
        promise6InstallRefused();
        promise6InstallCut();
        promise7Request();
        promise7RequestCut();
        promise8Confirm();
        promise9BootOrder();
        promise9BootWrong();
        promise9BootMarks();
        promise10Cut();
        promise10CutErase();
        promise11Power();
        promise12Harm();
        promise12HarmedImage();
        promise13Flash();
        promise14Due();
        promise15Image();
        promise16Trailer();
        promise17Wear();
        promise18Look();
        CHECK.end();
    }

    private static void due(String call, long got, long want) {
        CHECK.due(call, got, want);
    }

    private static void due(String call, boolean got, boolean want) {
        CHECK.due(call, got, want);
    }

    private static void promise1New() {
        Swap x = new Swap();
        for (int at = 0; at < Sample.FLASH; at++) {
            due("1 flash(" + at + ")", x.flash(at), 255);
        }
        for (int sector = 0; sector < 11; sector++) {
            due("1 wear(" + sector + ")", x.wear(sector), 0);
        }
        due("1 taped", x.taped(), 0);
        for (int what = 0; what <= 8; what++) {
            due("1 look(" + what + ")", x.look(what), what == 4 ? ScratchSwap.NONE : 0);
        }
        due("1 due", x.due(), 0);
        due("1 image", x.image(0, 0), 0);
        due("1 NONE", ScratchSwap.NONE, -1);
        due("1 IDLE", ScratchSwap.IDLE, -2);
        due("1 BUSY", ScratchSwap.BUSY, -3);
        due("1 DOWN", ScratchSwap.DOWN, -9);
    }

    private static void promise2Feed() {
        Swap x = new Swap();
        due("2 feed", x.feed(0x01020304, 0x85868788, -2, 0, 0x7fffffff), 20);
        due("2 feed more", x.feed(0x11121314, 0, 0, 0, 0), 40);
        x.install(0);
        int[] want = {1, 2, 3, 4, 0x85, 0x86, 0x87, 0x88, 255, 255, 255, 254, 0, 0, 0, 0, 127, 255, 255, 255,
            0x11, 0x12, 0x13, 0x14};
        Sample.same(CHECK, "2 the highest first", x, 0, want);
    }

    private static void promise2FeedLimit() {
        Swap x = new Swap();
        for (int i = 1; i <= 51; i++) {
            due("2 feed " + i, x.feed(i, i, i, i, i), 20 * i);
        }
        due("2 feed beyond 1024", x.feed(1, 1, 1, 1, 1), ScratchSwap.NONE);
        due("2 none came", x.taped(), 1020);
        x.end(1004);
        due("2 feed up to 1024", x.feed(9, 9, 9, 9, 9), 1024);
        due("2 feed at 1024", x.feed(9, 9, 9, 9, 9), ScratchSwap.NONE);
        x.end(1005);
        due("2 feed to 1025", x.feed(9, 9, 9, 9, 9), ScratchSwap.NONE);
        x.cut(0, 0);
        x.install(0);
        due("2 feed while it is down", x.feed(1, 1, 1, 1, 1), 20);
    }

    private static void promise3End() {
        Swap x = new Swap();
        due("3 end(0) of nothing", x.end(0), true);
        due("3 end(1) of nothing", x.end(1), false);
        x.feed(0x01020304, 0x05060708, 0x090a0b0c, 0x0d0e0f10, 0x11121314);
        for (int odd : new int[] {-1, 21, Integer.MIN_VALUE, Integer.MAX_VALUE}) {
            due("3 end(" + odd + ")", x.end(odd), false);
            due("3 it stays", x.taped(), 20);
        }
        due("3 end(20)", x.end(20), true);
        due("3 all of it", x.taped(), 20);
        due("3 end(3)", x.end(3), true);
        due("3 three", x.taped(), 3);
        due("3 end(4)", x.end(4), false);
        x.feed(0x61626364, 0, 0, 0, 0);
        x.install(0);
        Sample.same(CHECK, "3 the first ones", x, 0, new int[] {1, 2, 3, 0x61, 0x62, 0x63, 0x64});
    }

    private static void promise4Taped() {
        Swap x = new Swap();
        x.feed(1, 2, 3, 4, 5);
        due("4 fed", x.taped(), 20);
        x.feed(1, 2, 3, 4, 5);
        due("4 fed twice", x.taped(), 40);
        x.end(39);
        due("4 ended", x.taped(), 39);
        x.pack(1);
        due("4 packed", x.taped(), 79);
        x.install(0);
        due("4 used up", x.taped(), 0);
    }

    private static void promise5Pack() {
        int[] lengths = {0, 1, 15, 16, 47, 48, 49, 55, 56, 57, 63, 64, 111, 112, 119, 120, 500, 983, 984};
        int[] versions = {0, 1, -1, 0x01020304, Integer.MIN_VALUE, Integer.MAX_VALUE};
        for (int i = 0; i < lengths.length; i++) {
            int version = versions[i % versions.length];
            Swap x = new Swap();
            Sample.feedAll(x, lengths[i], i);
            due("5 pack of " + lengths[i], x.pack(version), lengths[i] + 40);
            due("5 taped", x.taped(), lengths[i] + 40);
            x.install(1);
            Sample.same(CHECK, "5 image of " + lengths[i], x, 5 * 256, Sample.image(version, lengths[i], i));
        }
        Swap x = new Swap();
        Sample.feedAll(x, 985, 1);
        due("5 pack of 985", x.pack(1), ScratchSwap.NONE);
        due("5 it stays", x.taped(), 985);
        x.install(0);
        for (int i = 0; i < 985; i++) {
            due("5 its byte " + i, x.flash(i), Sample.dataByte(1, i));
        }
        x.feed(1, 2, 3, 4, 5);
        x.pack(6);
        due("5 pack of an image", x.pack(7), 100);
        x.install(0);
        due("5 its length", x.image(0, 1), 60);
    }

    private static void promise6Install() {
        for (int slot = 0; slot <= 1; slot++) {
            int first = slot == 0 ? 0 : 5;
            Swap x = new Swap();
            for (int unit = 0; unit < Sample.FLASH / 8; unit++) {
                x.harm(8 * unit + unit % 8, 0);
            }
            x.feed(-1, -1, 0x01020304, -1, -1);
            x.feed(-1, -1, -1, 0x05060708, 0x090a0b0c);
            x.end(37);
            due("6 install", x.install(slot), 37);
            for (int at = 0; at < Sample.FLASH; at++) {
                int sector = at / 256;
                boolean erased = sector >= first && sector <= first + 4;
                int want = erased || at % 8 != at / 8 % 8 ? 255 : 0;
                int in = at - first * 256;
                want = in >= 8 && in < 12 ? in - 7 : in >= 32 && in < 37 ? in - 27 : want;
                due("6 byte " + at, x.flash(at), want);
            }
            due("6 five erased, two written", x.look(3), 7);
            due("6 the tape", x.taped(), 0);
            due("6 install of nothing", x.install(slot), 0);
            due("6 five erased", x.look(3), 12);
            for (int sector = 0; sector < 11; sector++) {
                due("6 wear", x.wear(sector), sector >= first && sector <= first + 4 ? 2 : 0);
            }
        }
        Swap x = Sample.ready(20, 20);
        x.install(1);
        due("6 the secondary slot alone", x.look(1), 1);
        x.install(0);
        due("6 the primary slot anew", x.look(1), 0);
        due("6 no version", x.look(2), 0);
    }

    private static void promise6InstallRefused() {
        Swap x = Sample.ready(20, 20);
        int acts = x.look(3);
        for (int slot : new int[] {2, -1, Integer.MIN_VALUE, Integer.MAX_VALUE}) {
            x.feed(1, 2, 3, 4, 5);
            due("6 install(" + slot + ")", x.install(slot), ScratchSwap.NONE);
            due("6 used up all the same", x.taped(), 0);
        }
        due("6 it runs on", x.look(1), 1);
        due("6 no acts", x.look(3), acts);
        Sample.harmUnit(x, Sample.PRIMARY_TRAILER, 1, 1);
        x.feed(1, 2, 3, 4, 5);
        due("6 busy", x.install(0), ScratchSwap.BUSY);
        due("6 busy uses it up", x.taped(), 0);
        due("6 busy runs on", x.look(1), 1);
        due("6 none ahead of busy", x.install(2), ScratchSwap.NONE);
        due("6 busy for the secondary", x.install(1), ScratchSwap.BUSY);
        x.cut(0, 0);
        x.boot();
        x.feed(1, 2, 3, 4, 5);
        due("6 down ahead of all", x.install(2), ScratchSwap.DOWN);
        due("6 down uses it up", x.taped(), 0);
        x.power();
        Sample.harmUnit(x, Sample.PRIMARY_TRAILER, 2, 1);
        due("6 busy no more", x.install(1), 0);
    }

    private static void promise6InstallCut() {
        Swap x = Sample.ready(20, 20);
        x.cut(4, 3);
        x.harm(Sample.SECONDARY_TRAILER + 23, 0);
        x.harm(Sample.SECONDARY_TRAILER + 24, 0);
        x.feed(1, 2, 3, 4, 5);
        due("6 cut in the trailer's erasing", x.install(1), ScratchSwap.DOWN);
        due("6 the sectors first", x.flash(5 * 256), 255);
        due("6 then so much of the trailer", x.flash(Sample.SECONDARY_TRAILER + 23), 255);
        due("6 and no more", x.flash(Sample.SECONDARY_TRAILER + 24), 0);
        due("6 the tape", x.taped(), 0);
        due("6 nothing runs", x.look(1), 0);
        x.power();
        x.cut(6, 3);
        x.feed(1, 2, 3, 4, 5);
        due("6 cut in writing", x.install(1), ScratchSwap.DOWN);
        due("6 the first unit", x.flash(5 * 256 + 7), 2);
        due("6 not the second", x.flash(5 * 256 + 8), 255);
    }

    private static void promise7Request() {
        Swap x = new Swap();
        due("7 idle", x.request(true), ScratchSwap.IDLE);
        due("7 nothing done", x.look(3), 0);
        for (int good = 0; good <= 1; good++) {
            x = Sample.ready(20, 20);
            int acts = x.look(3);
            due("7 request", x.request(good == 1), 0);
            due("7 acts", x.look(3), acts + 1 + good);
            due("7 ok", x.trailer(1, 3), good);
            due("7 magic", x.trailer(1, 0), 1);
            due("7 kind", x.trailer(1, 1), 0);
            Sample.same(CHECK, "7 magic", x, Sample.SECONDARY_TRAILER, Sample.MAGIC);
            due("7 again, whatever is there", x.request(good == 1), 0);
            due("7 acts again", x.look(3), acts + 2 * (1 + good));
            due("7 it runs on", x.look(1), 1);
            due("7 it is due", x.due(), 1 + good);
        }
        x.request(false);
        due("7 for good stays", x.due(), 2);
        x = Sample.ready(20, 20);
        Sample.harmUnit(x, Sample.PRIMARY_TRAILER, 1, 1);
        due("7 also if one is under way", x.request(false), 0);
    }

    private static void promise7RequestCut() {
        Swap x = Sample.ready(20, 20);
        x.cut(1, 0);
        due("7 cut", x.request(true), ScratchSwap.DOWN);
        due("7 ok first", x.trailer(1, 3), 1);
        due("7 then magic", x.trailer(1, 0), 0);
        due("7 down, ahead of idle", x.request(true), ScratchSwap.DOWN);
        due("7 nothing runs", x.look(1), 0);
        x.power();
        due("7 idle", x.request(true), ScratchSwap.IDLE);
        x = Sample.ready(20, 20);
        x.cut(0, 9);
        due("7 cut at once", x.request(false), ScratchSwap.DOWN);
        due("7 nothing is due", x.due(), 0);
    }

    private static void promise8Confirm() {
        Swap x = new Swap();
        due("8 idle", x.confirm(), ScratchSwap.IDLE);
        x = Sample.ready(20, 20);
        due("8 no magic", x.confirm(), 0);
        due("8 nothing marked", x.trailer(0, 3), 0);
        x.request(false);
        x.boot();
        int acts = x.look(3);
        due("8 confirm", x.confirm(), 1);
        due("8 one act", x.look(3), acts + 1);
        due("8 ok", x.trailer(0, 3), 1);
        due("8 again", x.confirm(), 0);
        due("8 no act", x.look(3), acts + 1);
        due("8 no way back", x.due(), 0);
        x = Sample.ready(20, 20);
        x.request(true);
        x.boot();
        due("8 for good, it is set", x.confirm(), 0);
        x = Sample.ready(20, 20);
        x.request(false);
        x.boot();
        x.cut(0, 0);
        due("8 cut", x.confirm(), ScratchSwap.DOWN);
        due("8 down ahead of idle", x.confirm(), ScratchSwap.DOWN);
        due("8 not set", x.trailer(0, 3), 0);
        x.power();
        due("8 idle behind power", x.confirm(), ScratchSwap.IDLE);
        due("8 back is due", x.due(), 3);
    }

    /** The sectors 3, 2, 1, 0, and of each the steps 0, 1, 2: power leaves each boot one step's acts alone. */
    private static void promise9BootOrder() {
        Swap x = Sample.ready(0, 0);
        x.request(false);
        for (int step = 0; step < 12; step++) {
            int unit = 4 + 3 * (3 - step / 3) + step % 3;
            due("9 step " + step + " comes next", x.flash(Sample.PRIMARY_TRAILER + 8 * unit), 255);
            for (int acts = 1; acts < 60 && x.trailer(0, 4) == step; acts++) {
                x.cut(acts, 0);
                x.boot();
                x.power();
            }
            due("9 step " + step + " is set", x.trailer(0, 4), step + 1);
            due("9 and it is that one", x.flash(Sample.PRIMARY_TRAILER + 8 * unit), 1);
        }
        due("9 at the end", x.boot(), 1);
        due("9 the other one runs", x.look(2), 2);
        Sample.same(CHECK, "9 primary", x, 0, Sample.image(2, 0, 2));
        Sample.same(CHECK, "9 secondary", x, 5 * 256, Sample.image(1, 0, 1));
    }

    private static void promise9BootWrong() {
        Swap x = new Swap();
        due("9 nothing there", x.boot(), 0);
        due("9 it counts", x.look(5), 1);
        x = Sample.ready(984, 700);
        x.request(true);
        x.harm(5 * 256 + 20, 0);
        due("9 wrong", x.due(), 4);
        x.cut(0, 1);
        due("9 cut", x.boot(), ScratchSwap.DOWN);
        due("9 found, but cut", x.look(7), 0);
        due("9 magic is gone by that", x.due(), 0);
        x.power();
        due("9 boot", x.boot(), 1);
        x.request(true);
        int acts = x.look(3);
        due("9 boot with a wrong one", x.boot(), 1);
        due("9 one act", x.look(3), acts + 1);
        due("9 found", x.look(7), 1);
        due("9 the old one runs", x.look(2), 1);
        due("9 no exchange", x.look(6), 0);
        due("9 ok is gone", x.trailer(1, 3), 0);
        x.harm(8, 0);
        due("9 a wrong digest is not started", x.boot(), 0);
        due("9 nothing runs", x.look(1), 0);
    }

    private static void promise9BootMarks() {
        Swap x = Sample.ready(300, 984);
        x.request(false);
        x.boot();
        due("9 trial", x.trailer(0, 1), 1);
        due("9 trial not ok", x.trailer(0, 3), 0);
        Sample.same(CHECK, "9 trial", x, 0, Sample.image(2, 984, 2));
        Sample.same(CHECK, "9 trial", x, 5 * 256, Sample.image(1, 300, 1));
        x.boot();
        due("9 back", x.trailer(0, 1), 3);
        due("9 back is ok", x.trailer(0, 3), 1);
        Sample.same(CHECK, "9 back", x, 0, Sample.image(1, 300, 1));
        Sample.same(CHECK, "9 back", x, 5 * 256, Sample.image(2, 984, 2));
        due("9 nothing more", x.due(), 0);
        x.request(true);
        x.boot();
        due("9 good", x.trailer(0, 1), 2);
        due("9 good is ok", x.trailer(0, 3), 1);
        due("9 done", x.trailer(0, 2), 1);
        due("9 magic", x.trailer(0, 0), 1);
        due("9 its steps", x.trailer(0, 4), 12);
        for (int at = Sample.SECONDARY_TRAILER; at < Sample.SECONDARY_TRAILER + 256; at++) {
            due("9 secondary trailer", x.flash(at), 255);
        }
        due("9 for good", x.boot(), 1);
        due("9 it stays", x.look(2), 2);
        due("9 three exchanges", x.look(6), 3);
    }

    private static void promise10Cut() {
        Swap x = new Swap();
        for (int odd : ODD) {
            due("10 acts " + odd, x.cut(odd, 0), false);
            due("10 units " + odd, x.cut(0, odd), false);
        }
        due("10 acts 100001", x.cut(100001, 0), false);
        due("10 units 32", x.cut(0, 32), false);
        due("10 nothing told", x.look(4), ScratchSwap.NONE);
        due("10 acts 100000", x.cut(100000, 31), true);
        due("10 so many", x.look(4), 100000);
        due("10 in place of that", x.cut(5, 0), true);
        due("10 so many now", x.look(4), 5);
        due("10 refused", x.cut(-1, 0), false);
        due("10 the old one stands", x.look(4), 5);
        due("10 five acts", x.install(0), 0);
        due("10 none left", x.look(4), 0);
        due("10 not down yet", x.look(0), 0);
        due("10 a boot without acts", x.boot(), 0);
        x.feed(1, 2, 3, 4, 5);
        due("10 and down", x.install(1), ScratchSwap.DOWN);
        due("10 down", x.look(0), 1);
        due("10 cut while down", x.cut(1, 1), false);
        due("10 none left", x.look(4), 0);
        due("10 boot while down", x.boot(), ScratchSwap.DOWN);
        due("10 that boot does not count", x.look(5), 1);
        due("10 nor again as power that went", x.look(8), 1);
        x = Sample.ready(20, 20);
        x.cut(0, 0);
        due("10 told alone, it runs on", x.look(1), 1);
        due("10 no act, no cut", x.confirm(), 0);
    }

    /** Of the first sector, and of the first unit behind it. */
    private static void promise10CutErase() {
        for (int units = 0; units < 32; units++) {
            Swap x = new Swap();
            for (int at = 0; at < 264; at++) {
                x.harm(at, 0);
            }
            x.cut(0, units);
            due("10 cut", x.install(0), ScratchSwap.DOWN);
            for (int at = 0; at < 264; at++) {
                due("10 " + units + " units, byte " + at, x.flash(at), at < 8 * units ? 255 : 0);
            }
            due("10 wear", x.wear(0), 1);
            due("10 no act", x.look(3), 0);
            x.power();
            x.install(0);
            due("10 power does not go again", x.look(3), 5);
        }
    }

    private static void promise11Power() {
        Swap x = Sample.ready(20, 20);
        x.feed(1, 2, 3, 4, 5);
        x.cut(3, 3);
        x.power();
        due("11 nothing runs", x.look(1), 0);
        due("11 no version", x.look(2), 0);
        due("11 not told any more", x.look(4), ScratchSwap.NONE);
        due("11 not by cut()", x.look(8), 0);
        due("11 the tape stays", x.taped(), 20);
        due("11 idle", x.confirm(), ScratchSwap.IDLE);
        due("11 boot", x.boot(), 1);
        x.cut(0, 0);
        x.install(0);
        due("11 down", x.look(0), 1);
        due("11 by cut()", x.look(8), 1);
        x.power();
        due("11 up", x.look(0), 0);
        due("11 goes no more", x.install(0), 0);
        x.power();
        x.power();
        due("11 up still", x.look(0), 0);
    }

    private static void promise12Harm() {
        Swap x = new Swap();
        for (int odd : new int[] {-1, 2816, Integer.MIN_VALUE, Integer.MAX_VALUE}) {
            due("12 harm(" + odd + ")", x.harm(odd, 0), false);
        }
        due("12 first", x.harm(0, 0xa5), true);
        due("12 byte", x.flash(0), 0xa5);
        due("12 more", x.harm(0, 0x0f), true);
        due("12 both", x.flash(0), 0x05);
        due("12 never comes back", x.harm(0, 255), true);
        due("12 as it was", x.flash(0), 0x05);
        due("12 last", x.harm(2815, -256), true);
        due("12 none of -256", x.flash(2815), 0);
        due("12 all of -1", x.harm(7, -1), true);
        due("12 as it was", x.flash(7), 255);
        due("12 high bits", x.harm(7, 0x7ffffff0), true);
        due("12 low ones", x.flash(7), 0xf0);
        due("12 no act", x.look(3), 0);
        x.cut(0, 0);
        due("12 not cut", x.harm(9, 1), true);
        x.install(0);
        due("12 down", x.harm(9, 3), true);
        due("12 byte", x.flash(9), 1);
        x = Sample.ready(20, 20);
        x.harm(10, 0);
        x.harm(8, 0);
        due("12 it runs on", x.look(1), 1);
        due("12 wrong now", x.image(0, 0), 0);
    }

    /** The one byte of a fed number 2 that is not 0 is its last one: the others can lose no bit. */
    private static void promise12HarmedImage() {
        Swap x = new Swap();
        x.feed(2, 2, 2, 2, 2);
        x.pack(4);
        x.install(0);
        Sample.same(CHECK, "12 fed", x, 8, new int[] {0, 0, 0, 2});
        for (int at = 8; at <= 10; at++) {
            due("12 harm(" + at + ", 0)", x.harm(at, 0), true);
        }
        due("12 right still", x.image(0, 0), 1);
        due("12 boot", x.boot(), 1);
        due("12 harm(11, 0)", x.harm(11, 0), true);
        due("12 digest wrong", x.image(0, 0), 0);
        due("12 boot of it", x.boot(), 0);
        due("12 nothing runs", x.look(1), 0);
    }

    private static void promise13Flash() {
        Swap x = new Swap();
        for (int odd : new int[] {-1, 2816, Integer.MIN_VALUE, Integer.MAX_VALUE}) {
            due("13 flash(" + odd + ")", x.flash(odd), ScratchSwap.NONE);
        }
        x.feed(0x00017f80, -2, 0, 0, 0);
        x.install(1);
        Sample.same(CHECK, "13", x, 5 * 256, new int[] {0, 1, 127, 128, 255, 255, 255, 254, 0});
        due("13 last", x.flash(2815), 255);
        x.cut(0, 0);
        x.install(1);
        due("13 down", x.flash(5 * 256 + 2), 127);
    }

    private static void promise14Due() {
        for (int kind = 1; kind <= 3; kind++) {
            Swap x = Sample.ready(20, 20);
            Sample.harmUnit(x, Sample.SECONDARY_TRAILER, 1, kind);
            due("14 secondary kind", x.due(), kind);
            x.harm(5 * 256 + 8, 0);
            x.harm(5 * 256 + 9, 0);
            due("14 its image wrong", x.due(), kind == 3 ? 3 : 4);
            Sample.harmUnit(x, Sample.PRIMARY_TRAILER, 1, kind);
            due("14 under way ahead of all", x.due(), 5);
            Sample.harmUnit(x, Sample.PRIMARY_TRAILER, 2, 1);
            due("14 done", x.due(), kind == 3 ? 3 : 4);
        }
        Swap x = Sample.ready(20, 20);
        Sample.harmUnit(x, Sample.SECONDARY_TRAILER, 3, 1);
        due("14 ok alone", x.due(), 0);
        Sample.harmMagic(x, Sample.SECONDARY_TRAILER);
        due("14 ok with magic", x.due(), 2);
        Sample.harmUnit(x, Sample.SECONDARY_TRAILER, 1, 1);
        due("14 the kind that is set", x.due(), 1);
        x = Sample.ready(20, 20);
        Sample.harmUnit(x, Sample.SECONDARY_TRAILER, 3, 2);
        Sample.harmMagic(x, Sample.SECONDARY_TRAILER);
        due("14 ok is set with 1 alone", x.due(), 1);
        x.harm(Sample.SECONDARY_TRAILER + 7, 32);
        due("14 magic is not good", x.due(), 0);
        x = Sample.ready(20, 20);
        Sample.harmUnit(x, Sample.PRIMARY_TRAILER, 1, 1);
        Sample.harmUnit(x, Sample.PRIMARY_TRAILER, 2, 1);
        due("14 a trial without magic", x.due(), 0);
        Sample.harmMagic(x, Sample.PRIMARY_TRAILER);
        due("14 a trial not confirmed", x.due(), 3);
        x.cut(0, 0);
        x.boot();
        due("14 while it is down", x.due(), 3);
        Sample.harmUnit(x, Sample.PRIMARY_TRAILER, 3, 1);
        due("14 confirmed", x.due(), 0);
        x = Sample.ready(20, 20);
        Sample.harmUnit(x, Sample.PRIMARY_TRAILER, 1, 2);
        Sample.harmUnit(x, Sample.PRIMARY_TRAILER, 2, 1);
        Sample.harmMagic(x, Sample.PRIMARY_TRAILER);
        due("14 no trial", x.due(), 0);
        Sample.harmUnit(x, Sample.PRIMARY_TRAILER, 2, 0);
        due("14 not done", x.due(), 5);
    }

    private static void promise15Image() {
        int[] versions = {7, -5, Integer.MIN_VALUE};
        int[] lengths = {0, 984, 333};
        for (int i = 0; i < 3; i++) {
            for (int slot = 0; slot <= 1; slot++) {
                Swap x = new Swap();
                Sample.put(x, slot, versions[i], lengths[i]);
                due("15 right", x.image(slot, 0), 1);
                due("15 length", x.image(slot, 1), lengths[i]);
                due("15 version", x.image(slot, 2), versions[i]);
                due("15 the other slot", x.image(1 - slot, 0), 0);
                int last = (slot == 0 ? 0 : 1280) + lengths[i] + 39;
                x.harm(last, x.flash(last) & x.flash(last) - 1);
                boolean harmed = x.flash(last) != Sample.image(versions[i], lengths[i], versions[i])[lengths[i] + 39];
                due("15 harmed in its last bit", x.image(slot, 0), harmed ? 0 : 1);
                due("15 no length", x.image(slot, 1), harmed ? 0 : lengths[i]);
                due("15 no version", x.image(slot, 2), harmed ? 0 : versions[i]);
            }
        }
        Swap x = Sample.ready(20, 20);
        for (int odd : new int[] {-1, 3, Integer.MIN_VALUE, Integer.MAX_VALUE}) {
            due("15 what " + odd, x.image(0, odd), ScratchSwap.NONE);
            due("15 slot " + odd, x.image(odd, 0), ScratchSwap.NONE);
        }
        due("15 slot 2", x.image(2, 0), ScratchSwap.NONE);
        x = new Swap();
        x.feed(0xd9030000, 0, 0, 0, 0);
        x.install(0);
        due("15 length 985", x.image(0, 0), 0);
        x.feed(-1, 0, 0, 0, 0);
        x.install(0);
        due("15 length -1", x.image(0, 0), 0);
        x.feed(0x00000080, 0, 0, 0, 0);
        x.install(1);
        due("15 lowest length", x.image(1, 1), 0);
    }

    private static void promise16Trailer() {
        for (int slot = 0; slot <= 1; slot++) {
            int trailer = slot == 0 ? Sample.PRIMARY_TRAILER : Sample.SECONDARY_TRAILER;
            Swap x = new Swap();
            for (int what = 0; what <= 4; what++) {
                due("16 empty", x.trailer(slot, what), 0);
            }
            Sample.harmMagic(x, trailer);
            due("16 magic", x.trailer(slot, 0), 1);
            x.harm(trailer + 1, 86);
            due("16 no magic", x.trailer(slot, 0), 0);
            Sample.harmUnit(x, trailer, 1, 3);
            due("16 kind 3", x.trailer(slot, 1), 3);
            Sample.harmUnit(x, trailer, 1, 2);
            due("16 kind 2", x.trailer(slot, 1), 2);
            x.harm(trailer + 15, 0);
            due("16 kind by eight alone", x.trailer(slot, 1), 0);
            Sample.harmUnit(x, trailer, 2, 3);
            due("16 done with 3", x.trailer(slot, 2), 0);
            Sample.harmUnit(x, trailer, 2, 1);
            due("16 done", x.trailer(slot, 2), 1);
            Sample.harmUnit(x, trailer, 3, 1);
            due("16 ok", x.trailer(slot, 3), 1);
            for (int unit = 4; unit <= 15; unit++) {
                Sample.harmUnit(x, trailer, unit, 1);
                due("16 steps", x.trailer(slot, 4), unit - 3);
            }
            Sample.harmUnit(x, trailer, 16, 1);
            due("16 no more steps", x.trailer(slot, 4), 12);
            for (int what = 0; what <= 4; what++) {
                due("16 the other one", x.trailer(1 - slot, what), 0);
            }
            for (int odd : new int[] {-1, 5, Integer.MIN_VALUE, Integer.MAX_VALUE}) {
                due("16 what " + odd, x.trailer(slot, odd), ScratchSwap.NONE);
                due("16 slot " + odd, x.trailer(odd, 0), ScratchSwap.NONE);
            }
            due("16 slot 2", x.trailer(2, 0), ScratchSwap.NONE);
        }
        Swap x = new Swap();
        Sample.harmUnit(x, Sample.PRIMARY_TRAILER, 1, 4);
        due("16 kind 4", x.trailer(0, 1), 0);
        Sample.harmUnit(x, Sample.PRIMARY_TRAILER, 1, 0);
        due("16 kind 0", x.trailer(0, 1), 0);
    }

    private static void promise17Wear() {
        Swap x = Sample.ready(20, 20);
        for (int odd : new int[] {-1, 11, Integer.MIN_VALUE, Integer.MAX_VALUE}) {
            due("17 wear(" + odd + ")", x.wear(odd), ScratchSwap.NONE);
        }
        for (int sector = 0; sector <= 10; sector++) {
            due("17 installed", x.wear(sector), sector == 10 ? 0 : 1);
        }
        x.request(true);
        x.boot();
        for (int sector = 0; sector <= 10; sector++) {
            due("17 exchanged", x.wear(sector), sector == 10 ? 4 : 2);
        }
        x.cut(0, 0);
        x.install(0);
        due("17 cut ones count", x.wear(0), 3);
        due("17 none behind", x.wear(1), 2);
        x.install(0);
        due("17 down, none", x.wear(0), 3);
    }

    private static void promise18Look() {
        Swap x = Sample.ready(20, 20);
        for (int odd : new int[] {-1, 9, Integer.MIN_VALUE, Integer.MAX_VALUE}) {
            due("18 look(" + odd + ")", x.look(odd), ScratchSwap.NONE);
        }
        due("18 acts", x.look(3), 26);
        due("18 runs", x.look(1), 1);
        due("18 version", x.look(2), 1);
        due("18 boots", x.look(5), 1);
        x.request(false);
        due("18 one act", x.look(3), 27);
        x.cut(10, 31);
        due("18 ten", x.look(4), 10);
        x.boot();
        due("18 down", x.look(0), 1);
        due("18 ten acts done", x.look(3), 37);
        due("18 none left", x.look(4), 0);
        due("18 boots", x.look(5), 1);
        due("18 exchanges", x.look(6), 0);
        due("18 gone", x.look(8), 1);
        x.power();
        due("18 up", x.look(0), 0);
        due("18 none told", x.look(4), ScratchSwap.NONE);
        x.boot();
        due("18 boots", x.look(5), 2);
        due("18 exchanges", x.look(6), 1);
        due("18 version", x.look(2), 2);
        x.harm(4, 0);
        due("18 what runs is what was started", x.look(2), 2);
        x.boot();
        x.boot();
        due("18 boots", x.look(5), 4);
        due("18 wrong ones", x.look(7), 0);
    }
}
