import java.util.Arrays;

/**
 * The document's words once more, written in another way than the program: what is cut is left by an
 * exception, a sector is a row of bytes, and the Java library makes the digests.
 */
final class Model {
    private static final class PowerGone extends RuntimeException {
        private static final long serialVersionUID = 1L;

        PowerGone() {
            super(null, null, false, false);
        }
    }

    private final int[][] sector = new int[11][256];
    private final int[] wear = new int[11];
    private int[] tape = new int[0];
    private boolean down;
    private Integer version;
    private int left = -1;
    private int units;
    private int acts;
    private int boots;
    private int exchanges;
    private int wrongs;
    private int gone;

    Model() {
        for (int[] s : sector) {
            Arrays.fill(s, 255);
        }
    }

    int feed(int... numbers) {
        if (tape.length + 20 > 1024) {
            return -1;
        }
        int at = tape.length;
        tape = Arrays.copyOf(tape, at + 20);
        for (int number : numbers) {
            for (int shift = 24; shift >= 0; shift -= 8) {
                tape[at++] = number >>> shift & 255;
            }
        }
        return tape.length;
    }

    boolean end(int n) {
        if (n < 0 || n > tape.length) {
            return false;
        }
        tape = Arrays.copyOf(tape, n);
        return true;
    }

    int taped() {
        return tape.length;
    }

    int pack(int newVersion) {
        if (tape.length > 984) {
            return -1;
        }
        byte[] ahead = new byte[8 + tape.length];
        for (int i = 0; i < ahead.length; i++) {
            int header = i < 4 ? tape.length >>> 8 * i : newVersion >>> 8 * (i - 4);
            ahead[i] = (byte) (i < 8 ? header : tape[i - 8]);
        }
        byte[] digest = Sample.sha256(ahead);
        tape = new int[ahead.length + 32];
        for (int i = 0; i < tape.length; i++) {
            tape[i] = (i < ahead.length ? ahead[i] : digest[i - ahead.length]) & 255;
        }
        return tape.length;
    }

    int install(int slot) {
        int[] bytes = tape;
        tape = new int[0];
        if (down) {
            return -9;
        }
        if (slot != 0 && slot != 1) {
            return -1;
        }
        if (underWay()) {
            return -3;
        }
        try {
            if (slot == 0) {
                version = null;
            }
            for (int s = 5 * slot; s < 5 * slot + 5; s++) {
                erase(s);
            }
            int[] filled = new int[1024];
            Arrays.fill(filled, 255);
            System.arraycopy(bytes, 0, filled, 0, bytes.length);
            for (int u = 0; u < 128; u++) {
                writeUnlessBlank(5 * slot + u / 32, u % 32, Arrays.copyOfRange(filled, 8 * u, 8 * u + 8));
            }
            return bytes.length;
        } catch (PowerGone e) {
            return -9;
        }
    }

    int request(boolean good) {
        if (down || version == null) {
            return down ? -9 : -2;
        }
        try {
            if (good) {
                mark(9, 3, 1);
            }
            write(9, 0, Sample.MAGIC);
            return 0;
        } catch (PowerGone e) {
            return -9;
        }
    }

    int confirm() {
        if (down || version == null) {
            return down ? -9 : -2;
        }
        if (set(4, 3) == 1 || !magic(4)) {
            return 0;
        }
        try {
            mark(4, 3, 1);
            return 1;
        } catch (PowerGone e) {
            return -9;
        }
    }

    int boot() {
        if (down) {
            return -9;
        }
        version = null;
        try {
            int due = due();
            if (due == 4) {
                erase(9);
                wrongs++;
            }
            if (due >= 1 && due <= 3) {
                if (set(9, 1) != due) {
                    mark(9, 1, due);
                }
                erase(4);
                mark(4, 1, due);
            }
            if (due != 0 && due != 4) {
                exchange();
            }
        } catch (PowerGone e) {
            return -9;
        }
        boots++;
        if (right(0)) {
            version = number(0, 4);
        }
        return version == null ? 0 : 1;
    }

    private void exchange() {
        for (int j = 3; j >= 0; j--) {
            int[][] ways = {{5 + j, 10}, {j, 5 + j}, {10, j}};
            for (int k = 0; k < 3; k++) {
                if (set(4, 4 + 3 * j + k) != 1) {
                    erase(ways[k][1]);
                    for (int u = 0; u < 32; u++) {
                        writeUnlessBlank(ways[k][1], u, Arrays.copyOfRange(sector[ways[k][0]], 8 * u, 8 * u + 8));
                    }
                    mark(4, 4 + 3 * j + k, 1);
                }
            }
        }
        erase(9);
        if (set(4, 1) >= 2 && set(4, 3) != 1) {
            mark(4, 3, 1);
        }
        write(4, 0, Sample.MAGIC);
        mark(4, 2, 1);
        exchanges++;
    }

    boolean cut(int newActs, int newUnits) {
        if (down || newActs < 0 || newActs > 100000 || newUnits < 0 || newUnits > 31) {
            return false;
        }
        left = newActs;
        units = newUnits;
        return true;
    }

    void power() {
        down = false;
        left = -1;
        version = null;
    }

    boolean harm(int at, int b) {
        if (at < 0 || at >= 2816) {
            return false;
        }
        sector[at / 256][at % 256] &= b;
        return true;
    }

    int flash(int at) {
        return at < 0 || at >= 2816 ? -1 : sector[at / 256][at % 256];
    }

    int due() {
        if (underWay()) {
            return 5;
        }
        int kind = set(9, 1);
        if (kind == 3) {
            return 3;
        }
        if (kind == 0 && magic(9)) {
            kind = set(9, 3) == 1 ? 2 : 1;
        }
        if (kind != 0) {
            return right(1) ? kind : 4;
        }
        return magic(4) && set(4, 1) == 1 && set(4, 2) == 1 && set(4, 3) != 1 ? 3 : 0;
    }

    int image(int slot, int what) {
        if (slot < 0 || slot > 1 || what < 0 || what > 2) {
            return -1;
        }
        return !right(slot) ? 0 : what == 0 ? 1 : number(5 * slot, 4 * (what - 1));
    }

    int trailer(int slot, int what) {
        if (slot < 0 || slot > 1 || what < 0 || what > 4) {
            return -1;
        }
        int s = 4 + 5 * slot;
        if (what == 0) {
            return magic(s) ? 1 : 0;
        }
        if (what == 1) {
            return set(s, 1);
        }
        int count = 0;
        for (int unit = what; unit <= (what == 4 ? 15 : what); unit++) {
            count += set(s, unit) == 1 ? 1 : 0;
        }
        return count;
    }

    int wear(int s) {
        return s < 0 || s > 10 ? -1 : wear[s];
    }

    int look(int what) {
        int[] answers = {down ? 1 : 0, version == null ? 0 : 1, version == null ? 0 : version, acts, down ? 0 : left,
            boots, exchanges, wrongs, gone};
        return what < 0 || what > 8 ? -1 : answers[what];
    }

    private boolean underWay() {
        return set(4, 1) != 0 && set(4, 2) != 1;
    }

    private void act() {
        if (left == 0) {
            down = true;
            version = null;
            gone++;
            throw new PowerGone();
        }
        if (left > 0) {
            left--;
        }
        acts++;
    }

    private void erase(int s) {
        wear[s]++;
        try {
            act();
        } catch (PowerGone e) {
            Arrays.fill(sector[s], 0, 8 * units, 255);
            throw e;
        }
        Arrays.fill(sector[s], 255);
    }

    private void write(int s, int unit, int[] eight) {
        act();
        for (int i = 0; i < 8; i++) {
            sector[s][8 * unit + i] &= eight[i];
        }
    }

    private void writeUnlessBlank(int s, int unit, int[] eight) {
        if (Arrays.stream(eight).anyMatch(b -> b != 255)) {
            write(s, unit, eight);
        }
    }

    private void mark(int s, int unit, int k) {
        write(s, unit, new int[] {k, k, k, k, k, k, k, k});
    }

    private int set(int s, int unit) {
        int k = sector[s][8 * unit];
        boolean all = Arrays.stream(sector[s], 8 * unit, 8 * unit + 8).allMatch(b -> b == k);
        return all && k >= 1 && k <= 3 ? k : 0;
    }

    private boolean magic(int s) {
        return Arrays.equals(Arrays.copyOf(sector[s], 8), Sample.MAGIC);
    }

    private int number(int s, int at) {
        return sector[s][at] | sector[s][at + 1] << 8 | sector[s][at + 2] << 16 | sector[s][at + 3] << 24;
    }

    private boolean right(int slot) {
        int n = number(5 * slot, 0);
        if (n < 0 || n > 984) {
            return false;
        }
        byte[] all = new byte[1024];
        for (int i = 0; i < 1024; i++) {
            all[i] = (byte) sector[5 * slot + i / 256][i % 256];
        }
        byte[] digest = Sample.sha256(Arrays.copyOf(all, 8 + n));
        return Arrays.equals(digest, Arrays.copyOfRange(all, 8 + n, 40 + n));
    }
}
