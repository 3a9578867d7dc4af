/**
 * A loader that exchanges two images of firmware sector by sector by way of a scratch sector,
 * in a flash memory whose power may go ahead of any write, or within an erasing.
 */
public final class ScratchSwap {
    public static final int NONE = -1;
    public static final int IDLE = -2;
    public static final int BUSY = -3;
    public static final int DOWN = -9;

    private static final int SECTORS = 11;
    private static final int SECTOR_BYTES = 256;
    private static final int SECTOR_UNITS = 32;
    private static final int UNIT_BYTES = 8;
    private static final int FLASH_BYTES = SECTORS * SECTOR_BYTES;
    private static final int BLANK = 255;

    private static final int SLOT_SECTORS = 4;
    private static final int SLOT_BYTES = SLOT_SECTORS * SECTOR_BYTES;
    private static final int PRIMARY = 0;
    private static final int SECONDARY = 1;
    private static final int SECONDARY_SECTOR = 5;
    private static final int PRIMARY_TRAILER = 4;
    private static final int SECONDARY_TRAILER = 9;
    private static final int SCRATCH = 10;

    private static final int HEAD_BYTES = 8;
    private static final int DIGEST_BYTES = 32;
    private static final int MOST_LENGTH = SLOT_BYTES - HEAD_BYTES - DIGEST_BYTES;
    private static final int FEED_BYTES = 20;

    private static final int MAGIC_UNIT = 0;
    private static final int KIND_UNIT = 1;
    private static final int DONE_UNIT = 2;
    private static final int OK_UNIT = 3;
    private static final int FIRST_STEP_UNIT = 4;
    private static final int SECTOR_STEPS = 3;
    private static final int STEPS = SLOT_SECTORS * SECTOR_STEPS;
    private static final int[] MAGIC = {83, 87, 65, 80, 45, 79, 75, 33};

    private static final int NOTHING = 0;
    private static final int TRIAL = 1;
    private static final int GOOD = 2;
    private static final int BACK = 3;
    private static final int WRONG = 4;
    private static final int RESUME = 5;

    private static final int MOST_ACTS_TOLD = 100000;

    private final Memory memory;
    private final Tape tape;
    private final Sha256 sha;
    private boolean runs;
    private int runningVersion;
    private int wholeBoots;
    private int exchangesEnded;
    private int wrongsErased;

    public ScratchSwap() {
        memory = new Memory();
        tape = new Tape();
        sha = new Sha256();
        runs = false;
        runningVersion = 0;
        wholeBoots = 0;
        exchangesEnded = 0;
        wrongsErased = 0;
    }

    public int feed(int a, int b, int c, int d, int e) {
        if (tape.count + FEED_BYTES > SLOT_BYTES) {
            return NONE;
        }
        tape.addHighestFirst(a);
        tape.addHighestFirst(b);
        tape.addHighestFirst(c);
        tape.addHighestFirst(d);
        tape.addHighestFirst(e);
        return tape.count;
    }

    public boolean end(int n) {
        if (n < 0 || n > tape.count) {
            return false;
        }
        tape.count = n;
        return true;
    }

    public int taped() {
        return tape.count;
    }

    public int pack(int version) {
        if (tape.count > MOST_LENGTH) {
            return NONE;
        }
        tape.becomeImage(version, sha);
        return tape.count;
    }

    public int install(int slot) {
        int length = tape.count;
        tape.count = 0;
        if (memory.down) {
            return DOWN;
        }
        if (!isSlot(slot)) {
            return NONE;
        }
        if (isUnderWay()) {
            return BUSY;
        }
        if (slot == PRIMARY) {
            stopRunning();
        }
        if (!eraseSlot(slot) || !memory.writeRow(firstByteOf(slot), tape.bytes, length)) {
            return powerWent();
        }
        return length;
    }

    public int request(boolean good) {
        if (memory.down) {
            return DOWN;
        }
        if (!runs) {
            return IDLE;
        }
        if (good && !memory.markUnit(SECONDARY_TRAILER, OK_UNIT, 1)) {
            return powerWent();
        }
        if (!writeMagic(SECONDARY_TRAILER)) {
            return powerWent();
        }
        return 0;
    }

    public int confirm() {
        if (memory.down) {
            return DOWN;
        }
        if (!runs) {
            return IDLE;
        }
        if (isMarked(PRIMARY_TRAILER, OK_UNIT) || !memory.hasMagic(PRIMARY_TRAILER)) {
            return 0;
        }
        if (!memory.markUnit(PRIMARY_TRAILER, OK_UNIT, 1)) {
            return powerWent();
        }
        return 1;
    }

    public int boot() {
        if (memory.down) {
            return DOWN;
        }
        stopRunning();
        if (!doWhatIsDue(findDue())) {
            return powerWent();
        }
        wholeBoots++;
        if (!isRight(PRIMARY)) {
            return 0;
        }
        runs = true;
        runningVersion = versionIn(PRIMARY);
        return 1;
    }

    public boolean cut(int acts, int units) {
        if (acts < 0 || acts > MOST_ACTS_TOLD || units < 0 || units >= SECTOR_UNITS || memory.down) {
            return false;
        }
        memory.tellToGo(acts, units);
        return true;
    }

    public void power() {
        memory.powerComes();
        stopRunning();
    }

    public boolean harm(int at, int b) {
        if (!Memory.has(at)) {
            return false;
        }
        memory.keepBits(at, b);
        return true;
    }

    public int flash(int at) {
        return Memory.has(at) ? memory.byteAt(at) : NONE;
    }

    public int due() {
        return findDue();
    }

    public int image(int slot, int what) {
        if (!isSlot(slot) || what < 0 || what > 2) {
            return NONE;
        }
        if (!isRight(slot)) {
            return 0;
        }
        switch (what) {
            case 0:
                return 1;
            case 1:
                return lengthIn(slot);
            default:
                return versionIn(slot);
        }
    }

    public int trailer(int slot, int what) {
        if (!isSlot(slot)) {
            return NONE;
        }
        int sector = trailerOf(slot);
        switch (what) {
            case 0:
                return asNumber(memory.hasMagic(sector));
            case 1:
                return memory.markIn(sector, KIND_UNIT);
            case 2:
                return asNumber(isMarked(sector, DONE_UNIT));
            case 3:
                return asNumber(isMarked(sector, OK_UNIT));
            case 4:
                return stepsSet(sector);
            default:
                return NONE;
        }
    }

    public int wear(int sector) {
        return Memory.hasSector(sector) ? memory.timesErased[sector] : NONE;
    }

    public int look(int what) {
        switch (what) {
            case 0:
                return asNumber(memory.down);
            case 1:
                return asNumber(runs);
            case 2:
                return runningVersion;
            case 3:
                return memory.actsDone;
            case 4:
                return memory.actsStillDone();
            case 5:
                return wholeBoots;
            case 6:
                return exchangesEnded;
            case 7:
                return wrongsErased;
            case 8:
                return memory.timesGone;
            default:
                return NONE;
        }
    }

    private static int asNumber(boolean holds) {
        return holds ? 1 : 0;
    }

    private static boolean isSlot(int slot) {
        return slot == PRIMARY || slot == SECONDARY;
    }

    private static int firstSectorOf(int slot) {
        return slot == PRIMARY ? 0 : SECONDARY_SECTOR;
    }

    private static int firstByteOf(int slot) {
        return firstSectorOf(slot) * SECTOR_BYTES;
    }

    private static int trailerOf(int slot) {
        return slot == PRIMARY ? PRIMARY_TRAILER : SECONDARY_TRAILER;
    }

    private void stopRunning() {
        runs = false;
        runningVersion = 0;
    }

    private int powerWent() {
        stopRunning();
        return DOWN;
    }

    private int lengthIn(int slot) {
        return memory.intAt(firstByteOf(slot));
    }

    private int versionIn(int slot) {
        return memory.intAt(firstByteOf(slot) + 4);
    }

    private boolean isRight(int slot) {
        int length = lengthIn(slot);
        if (length < 0 || length > MOST_LENGTH) {
            return false;
        }
        int first = firstByteOf(slot);
        int ahead = HEAD_BYTES + length;
        sha.digest(memory.bytes, first, ahead);
        for (int i = 0; i < DIGEST_BYTES; i++) {
            if (memory.byteAt(first + ahead + i) != sha.digestByte(i)) {
                return false;
            }
        }
        return true;
    }

    private boolean isMarked(int sector, int unit) {
        return memory.markIn(sector, unit) == 1;
    }

    private boolean writeMagic(int sector) {
        return memory.writeRow(Memory.unitAt(sector, MAGIC_UNIT), MAGIC, UNIT_BYTES);
    }

    private int stepsSet(int sector) {
        int set = 0;
        for (int i = 0; i < STEPS; i++) {
            if (isMarked(sector, FIRST_STEP_UNIT + i)) {
                set++;
            }
        }
        return set;
    }

    private boolean isUnderWay() {
        return memory.markIn(PRIMARY_TRAILER, KIND_UNIT) != 0 && !isMarked(PRIMARY_TRAILER, DONE_UNIT);
    }

    private int findDue() {
        if (isUnderWay()) {
            return RESUME;
        }
        int asked = kindAskedFor();
        if (asked == BACK) {
            return BACK;
        }
        if (asked != NOTHING) {
            return isRight(SECONDARY) ? asked : WRONG;
        }
        return isTrialUnconfirmed() ? BACK : NOTHING;
    }

    private int kindAskedFor() {
        int kind = memory.markIn(SECONDARY_TRAILER, KIND_UNIT);
        if (kind != 0) {
            return kind;
        }
        if (!memory.hasMagic(SECONDARY_TRAILER)) {
            return NOTHING;
        }
        return isMarked(SECONDARY_TRAILER, OK_UNIT) ? GOOD : TRIAL;
    }

    private boolean isTrialUnconfirmed() {
        return memory.hasMagic(PRIMARY_TRAILER)
                && memory.markIn(PRIMARY_TRAILER, KIND_UNIT) == TRIAL
                && isMarked(PRIMARY_TRAILER, DONE_UNIT)
                && !isMarked(PRIMARY_TRAILER, OK_UNIT);
    }

    private boolean eraseSlot(int slot) {
        int first = firstSectorOf(slot);
        for (int j = 0; j < SLOT_SECTORS; j++) {
            if (!memory.eraseSector(first + j)) {
                return false;
            }
        }
        return memory.eraseSector(trailerOf(slot));
    }

    /** Like all that ACTS here, it answers false if power went: nothing behind that may be done. */
    private boolean doWhatIsDue(int what) {
        switch (what) {
            case NOTHING:
                return true;
            case WRONG:
                return eraseWrong();
            case RESUME:
                return exchangeSectors() && endExchange();
            default:
                return beginExchange(what) && exchangeSectors() && endExchange();
        }
    }

    private boolean eraseWrong() {
        if (!memory.eraseSector(SECONDARY_TRAILER)) {
            return false;
        }
        wrongsErased++;
        return true;
    }

    private boolean beginExchange(int kind) {
        if (memory.markIn(SECONDARY_TRAILER, KIND_UNIT) != kind
                && !memory.markUnit(SECONDARY_TRAILER, KIND_UNIT, kind)) {
            return false;
        }
        return memory.eraseSector(PRIMARY_TRAILER) && memory.markUnit(PRIMARY_TRAILER, KIND_UNIT, kind);
    }

    private boolean exchangeSectors() {
        for (int j = SLOT_SECTORS - 1; j >= 0; j--) {
            int other = SECONDARY_SECTOR + j;
            if (!takeStep(j, 0, SCRATCH, other) || !takeStep(j, 1, other, j) || !takeStep(j, 2, j, SCRATCH)) {
                return false;
            }
        }
        return true;
    }

    private boolean takeStep(int j, int k, int sector, int source) {
        int unit = FIRST_STEP_UNIT + SECTOR_STEPS * j + k;
        if (isMarked(PRIMARY_TRAILER, unit)) {
            return true;
        }
        return memory.replaceSector(sector, source) && memory.markUnit(PRIMARY_TRAILER, unit, 1);
    }

    private boolean endExchange() {
        if (!memory.eraseSector(SECONDARY_TRAILER)) {
            return false;
        }
        boolean trial = memory.markIn(PRIMARY_TRAILER, KIND_UNIT) == TRIAL;
        if (!trial && !isMarked(PRIMARY_TRAILER, OK_UNIT) && !memory.markUnit(PRIMARY_TRAILER, OK_UNIT, 1)) {
            return false;
        }
        if (!writeMagic(PRIMARY_TRAILER) || !memory.markUnit(PRIMARY_TRAILER, DONE_UNIT, 1)) {
            return false;
        }
        exchangesEnded++;
        return true;
    }

    /** The FLASH and its power. */
    private static final class Memory {
        private final int[] bytes;
        private final int[] timesErased;
        private final int[] unitTaken;
        private boolean down;
        private boolean toldToGo;
        private int actsLeft;
        private int unitsCut;
        private int actsDone;
        private int timesGone;

        private Memory() {
            bytes = new int[FLASH_BYTES];
            timesErased = new int[SECTORS];
            unitTaken = new int[UNIT_BYTES];
            for (int i = 0; i < FLASH_BYTES; i++) {
                bytes[i] = BLANK;
            }
            down = false;
            toldToGo = false;
            actsLeft = 0;
            unitsCut = 0;
            actsDone = 0;
            timesGone = 0;
        }

        private static boolean has(int at) {
            return at >= 0 && at < FLASH_BYTES;
        }

        private static boolean hasSector(int sector) {
            return sector >= 0 && sector < SECTORS;
        }

        private static int unitAt(int sector, int unit) {
            return sector * SECTOR_BYTES + unit * UNIT_BYTES;
        }

        private int byteAt(int at) {
            return at >= 0 && at < FLASH_BYTES ? bytes[at] : BLANK;
        }

        private int intAt(int at) {
            return byteAt(at) | (byteAt(at + 1) << 8) | (byteAt(at + 2) << 16) | (byteAt(at + 3) << 24);
        }

        private void keepBits(int at, int b) {
            if (at >= 0 && at < FLASH_BYTES) {
                bytes[at] &= b;
            }
        }

        private void tellToGo(int acts, int units) {
            toldToGo = true;
            actsLeft = acts;
            unitsCut = units;
        }

        private void powerComes() {
            down = false;
            toldToGo = false;
        }

        private int actsStillDone() {
            if (down) {
                return 0;
            }
            return toldToGo ? actsLeft : NONE;
        }

        private boolean beginAct() {
            if (down) {
                return false;
            }
            if (toldToGo && actsLeft == 0) {
                down = true;
                timesGone++;
                return false;
            }
            if (toldToGo) {
                actsLeft--;
            }
            actsDone++;
            return true;
        }

        private boolean eraseSector(int sector) {
            if (down || !hasSector(sector)) {
                return false;
            }
            timesErased[sector]++;
            boolean whole = beginAct();
            int units = whole ? SECTOR_UNITS : unitsCut;
            int first = sector * SECTOR_BYTES;
            for (int i = 0; i < units * UNIT_BYTES; i++) {
                if (has(first + i)) {
                    bytes[first + i] = BLANK;
                }
            }
            return whole;
        }

        private boolean replaceSector(int sector, int source) {
            if (!eraseSector(sector)) {
                return false;
            }
            for (int unit = 0; unit < SECTOR_UNITS; unit++) {
                if (!writeUnit(unitAt(sector, unit), bytes, unitAt(source, unit), FLASH_BYTES)) {
                    return false;
                }
            }
            return true;
        }

        private boolean writeRow(int at, int[] row, int length) {
            for (int from = 0; from < length; from += UNIT_BYTES) {
                if (!writeUnit(at + from, row, from, length)) {
                    return false;
                }
            }
            return true;
        }

        /** A unit of eight times 255 is passed over: the document counts no ACT for it. */
        private boolean writeUnit(int at, int[] row, int from, int end) {
            if (isBlankWhenTaken(row, from, end)) {
                return true;
            }
            if (!beginAct()) {
                return false;
            }
            for (int i = 0; i < UNIT_BYTES; i++) {
                keepBits(at + i, unitTaken[i]);
            }
            return true;
        }

        private boolean isBlankWhenTaken(int[] row, int from, int end) {
            boolean blank = true;
            for (int i = 0; i < UNIT_BYTES; i++) {
                int place = from + i;
                boolean there = row != null && place >= 0 && place < end && place < row.length;
                unitTaken[i] = there ? row[place] : BLANK;
                blank = blank && unitTaken[i] == BLANK;
            }
            return blank;
        }

        private boolean markUnit(int sector, int unit, int k) {
            if (!beginAct()) {
                return false;
            }
            int at = unitAt(sector, unit);
            for (int i = 0; i < UNIT_BYTES; i++) {
                keepBits(at + i, k);
            }
            return true;
        }

        private int markIn(int sector, int unit) {
            int at = unitAt(sector, unit);
            int k = byteAt(at);
            if (k < 1 || k > 3) {
                return 0;
            }
            for (int i = 1; i < UNIT_BYTES; i++) {
                if (byteAt(at + i) != k) {
                    return 0;
                }
            }
            return k;
        }

        private boolean hasMagic(int sector) {
            int at = unitAt(sector, MAGIC_UNIT);
            for (int i = 0; i < UNIT_BYTES; i++) {
                if (byteAt(at + i) != MAGIC[i]) {
                    return false;
                }
            }
            return true;
        }
    }

    /** What is fed, till it is installed. */
    private static final class Tape {
        private final int[] bytes;
        private int count;

        private Tape() {
            bytes = new int[SLOT_BYTES];
            count = 0;
        }

        private void add(int b) {
            if (count >= 0 && count < SLOT_BYTES) {
                bytes[count] = b & 255;
                count++;
            }
        }

        private void addHighestFirst(int number) {
            add(number >> 24);
            add(number >> 16);
            add(number >> 8);
            add(number);
        }

        private void addLowestFirst(int number) {
            add(number);
            add(number >> 8);
            add(number >> 16);
            add(number >> 24);
        }

        private void becomeImage(int version, Sha256 sha) {
            int length = count;
            if (length < 0 || length > MOST_LENGTH || sha == null) {
                return;
            }
            for (int i = length - 1; i >= 0; i--) {
                bytes[HEAD_BYTES + i] = bytes[i];
            }
            count = 0;
            addLowestFirst(length);
            addLowestFirst(version);
            count = HEAD_BYTES + length;
            sha.digest(bytes, 0, count);
            for (int i = 0; i < DIGEST_BYTES; i++) {
                add(sha.digestByte(i));
            }
        }
    }

    /** SHA-256 as FIPS 180-4 tells it, over bytes that stand in a row of numbers. */
    private static final class Sha256 {
        private static final int BLOCK_BYTES = 64;
        private static final int BLOCK_WORDS = 16;
        private static final int LENGTH_BYTES = 8;
        private static final int ROUNDS = 64;
        private static final int WORDS = 8;
        private static final int[] ROUND_WORDS = {
            0x428a2f98, 0x71374491, 0xb5c0fbcf, 0xe9b5dba5, 0x3956c25b, 0x59f111f1, 0x923f82a4, 0xab1c5ed5,
            0xd807aa98, 0x12835b01, 0x243185be, 0x550c7dc3, 0x72be5d74, 0x80deb1fe, 0x9bdc06a7, 0xc19bf174,
            0xe49b69c1, 0xefbe4786, 0x0fc19dc6, 0x240ca1cc, 0x2de92c6f, 0x4a7484aa, 0x5cb0a9dc, 0x76f988da,
            0x983e5152, 0xa831c66d, 0xb00327c8, 0xbf597fc7, 0xc6e00bf3, 0xd5a79147, 0x06ca6351, 0x14292967,
            0x27b70a85, 0x2e1b2138, 0x4d2c6dfc, 0x53380d13, 0x650a7354, 0x766a0abb, 0x81c2c92e, 0x92722c85,
            0xa2bfe8a1, 0xa81a664b, 0xc24b8b70, 0xc76c51a3, 0xd192e819, 0xd6990624, 0xf40e3585, 0x106aa070,
            0x19a4c116, 0x1e376c08, 0x2748774c, 0x34b0bcb5, 0x391c0cb3, 0x4ed8aa4a, 0x5b9cca4f, 0x682e6ff3,
            0x748f82ee, 0x78a5636f, 0x84c87814, 0x8cc70208, 0x90befffa, 0xa4506ceb, 0xbef9a3f7, 0xc67178f2
        };
        private static final int[] FIRST_WORDS = {
            0x6a09e667, 0xbb67ae85, 0x3c6ef372, 0xa54ff53a, 0x510e527f, 0x9b05688c, 0x1f83d9ab, 0x5be0cd19
        };

        private final int[] schedule;
        private final int[] hash;

        private Sha256() {
            schedule = new int[ROUNDS];
            hash = new int[WORDS];
        }

        private void digest(int[] row, int first, int length) {
            if (row == null || first < 0 || length < 0 || length > SLOT_BYTES || first > row.length - length) {
                return;
            }
            for (int i = 0; i < WORDS; i++) {
                hash[i] = FIRST_WORDS[i];
            }
            int blocks = (length + LENGTH_BYTES) / BLOCK_BYTES + 1;
            for (int block = 0; block < blocks; block++) {
                for (int t = 0; t < BLOCK_WORDS; t++) {
                    schedule[t] = paddedWord(row, first, length, block * BLOCK_BYTES + 4 * t);
                }
                if (block == blocks - 1) {
                    schedule[BLOCK_WORDS - 1] = 8 * length;
                }
                stretchSchedule();
                mixBlock();
            }
        }

        private int digestByte(int i) {
            if (i < 0 || i >= DIGEST_BYTES) {
                return 0;
            }
            return (hash[i / 4] >>> (24 - 8 * (i % 4))) & 255;
        }

        private static int paddedWord(int[] row, int first, int length, int at) {
            int word = 0;
            for (int i = at; i < at + 4; i++) {
                word = (word << 8) | paddedByte(row, first, length, i);
            }
            return word;
        }

        private static int paddedByte(int[] row, int first, int length, int at) {
            if (at == length) {
                return 128;
            }
            int place = first + at;
            return at < length && place >= 0 && place < row.length ? row[place] : 0;
        }

        private void stretchSchedule() {
            for (int t = BLOCK_WORDS; t < ROUNDS; t++) {
                int near = schedule[t - 2];
                int far = schedule[t - 15];
                int nearMixed = turn(near, 17) ^ turn(near, 19) ^ (near >>> 10);
                int farMixed = turn(far, 7) ^ turn(far, 18) ^ (far >>> 3);
                schedule[t] = nearMixed + schedule[t - 7] + farMixed + schedule[t - 16];
            }
        }

        private void mixBlock() {
            int a = hash[0];
            int b = hash[1];
            int c = hash[2];
            int d = hash[3];
            int e = hash[4];
            int f = hash[5];
            int g = hash[6];
            int h = hash[7];
            for (int t = 0; t < ROUNDS; t++) {
                int chosen = (e & f) ^ (~e & g);
                int most = (a & b) ^ (a & c) ^ (b & c);
                int one = h + (turn(e, 6) ^ turn(e, 11) ^ turn(e, 25)) + chosen + ROUND_WORDS[t] + schedule[t];
                int two = (turn(a, 2) ^ turn(a, 13) ^ turn(a, 22)) + most;
                h = g;
                g = f;
                f = e;
                e = d + one;
                d = c;
                c = b;
                b = a;
                a = one + two;
            }
            hash[0] += a;
            hash[1] += b;
            hash[2] += c;
            hash[3] += d;
            hash[4] += e;
            hash[5] += f;
            hash[6] += g;
            hash[7] += h;
        }

        private static int turn(int word, int places) {
            return (word >>> places) | (word << (32 - places));
        }
    }
}
