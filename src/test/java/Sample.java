import java.security.MessageDigest;
import java.security.NoSuchAlgorithmException;

/** Images and runs of calls that several tests begin with. */
final class Sample {
    static final int FLASH = 2816;
    static final int PRIMARY_TRAILER = 4 * 256;
    static final int SECONDARY_TRAILER = 9 * 256;
    static final int[] MAGIC = {83, 87, 65, 80, 45, 79, 75, 33};

    private Sample() {
    }

    /** The image of the bytes that feedAll feeds, made by the Java library's SHA-256. */
    static int[] image(int version, int length, int seed) {
        byte[] ahead = new byte[8 + length];
        for (int i = 0; i < 4; i++) {
            ahead[i] = (byte) (length >> (8 * i));
            ahead[4 + i] = (byte) (version >> (8 * i));
        }
        for (int i = 0; i < length; i++) {
            ahead[8 + i] = (byte) dataByte(seed, i);
        }
        byte[] digest = sha256(ahead);
        int[] image = new int[length + 40];
        for (int i = 0; i < image.length; i++) {
            image[i] = (i < ahead.length ? ahead[i] : digest[i - ahead.length]) & 255;
        }
        return image;
    }

    static byte[] sha256(byte[] bytes) {
        try {
            return MessageDigest.getInstance("SHA-256").digest(bytes);
        } catch (NoSuchAlgorithmException e) {
            throw new IllegalStateException(e);
        }
    }

    /** Every fifth run of 32 bytes is blank, so that COPY has units to pass over. */
    static int dataByte(int seed, int i) {
        return i / 32 % 5 == 4 ? 255 : (seed * 31 + i * 7 + i / 16) & 255;
    }

    /** The tape holds the data of that length afterwards; at most 1024 less what a last feed is over. */
    static void feedAll(Swap x, int length, int seed) {
        x.end(0);
        for (int i = 0; i < length; i += 20) {
            x.feed(number(seed, i), number(seed, i + 4), number(seed, i + 8), number(seed, i + 12),
                    number(seed, i + 16));
        }
        x.end(length);
    }

    /** The tape holds these bytes afterwards, up to 1024: the odd ones go first, as a feed is always twenty. */
    static void feedBytes(Swap x, int... bytes) {
        x.end(0);
        int odd = bytes.length % 20;
        if (odd != 0) {
            feedTwenty(x, bytes, 0);
            x.end(odd);
        }
        for (int i = odd; i < bytes.length; i += 20) {
            feedTwenty(x, bytes, i);
        }
    }

    private static void feedTwenty(Swap x, int[] bytes, int from) {
        int[] numbers = new int[5];
        for (int i = 0; i < 20; i++) {
            int b = from + i < bytes.length ? bytes[from + i] : 0;
            numbers[i / 4] = numbers[i / 4] << 8 | b & 255;
        }
        x.feed(numbers[0], numbers[1], numbers[2], numbers[3], numbers[4]);
    }

    /** So many bytes, none of them 255. */
    static int[] row(int length) {
        int[] row = new int[length];
        for (int i = 0; i < length; i++) {
            row[i] = (i * 7 + i / 8) % 255;
        }
        return row;
    }

    /** An image that tells one length and has the right digest for another: also such as the document rules out. */
    static int[] imageByHand(int told, int length, int version) {
        byte[] ahead = new byte[8 + length];
        for (int i = 0; i < ahead.length; i++) {
            int header = i < 4 ? told >> (8 * i) : version >> (8 * (i - 4));
            ahead[i] = (byte) (i < 8 ? header : i * 5);
        }
        byte[] digest = sha256(ahead);
        int[] image = new int[ahead.length + 32];
        for (int i = 0; i < image.length; i++) {
            image[i] = (i < ahead.length ? ahead[i] : digest[i - ahead.length]) & 255;
        }
        return image;
    }

    private static int number(int seed, int i) {
        return dataByte(seed, i) << 24 | dataByte(seed, i + 1) << 16 | dataByte(seed, i + 2) << 8
                | dataByte(seed, i + 3);
    }

    static void put(Swap x, int slot, int version, int length) {
        feedAll(x, length, version);
        x.pack(version);
        x.install(slot);
    }

    /** Version 1 RUNS, version 2 stands in the secondary slot, nothing is asked for. */
    static Swap ready(int first, int second) {
        Swap x = new Swap();
        put(x, 0, 1, first);
        put(x, 1, 2, second);
        x.boot();
        return x;
    }

    static void harmUnit(Swap x, int trailer, int unit, int value) {
        for (int i = 0; i < 8; i++) {
            x.harm(trailer + 8 * unit + i, value);
        }
    }

    static void harmMagic(Swap x, int trailer) {
        for (int i = 0; i < 8; i++) {
            x.harm(trailer + i, MAGIC[i]);
        }
    }

    /** All that can be seen of an object from outside, but for the tape. */
    static int[] seen(Swap x) {
        int[] seen = new int[FLASH + 11 + 9 + 1];
        for (int i = 0; i < seen.length; i++) {
            seen[i] = seenAt(x, i);
        }
        return seen;
    }

    private static int seenAt(Swap x, int i) {
        int behind = i - FLASH;
        return behind < 0 ? x.flash(i) : behind < 11 ? x.wear(behind) : behind < 20 ? x.look(behind - 11) : x.due();
    }

    static void unchanged(Check check, String call, Swap x, int[] before) {
        for (int i = 0; i < before.length; i++) {
            int behind = i - FLASH;
            String name = behind < 0 ? "flash(" + i + ")" : behind < 11 ? "wear(" + behind + ")"
                    : behind < 20 ? "look(" + (behind - 11) + ")" : "due()";
            check.due(name + " behind " + call, seenAt(x, i), before[i]);
        }
    }

    static void same(Check check, String what, Swap x, int at, int[] bytes) {
        for (int i = 0; i < bytes.length; i++) {
            check.due(what + " flash(" + (at + i) + ")", x.flash(at + i), bytes[i]);
        }
    }
}
