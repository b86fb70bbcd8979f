/**
 * The document once more, sentence by sentence and in another shape than the program (a cut is an
 * exception here, stripes are a row, deciphering is written out), to compare runs of calls with.
 */
final class Model {
    static final int MARK = 1396855379;

    private static final class PowerCut extends Exception {
        private static final long serialVersionUID = 1L;
    }

    private interface Work {
        int done() throws PowerCut;
    }

    final int[] disk = new int[80];
    int state = 0;
    int writes = 0;
    int cut = -1;
    int a;
    int b;

    static int h(int a, int b) {
        int x = (a ^ 1517746329) * 916191069 + b;
        x = x ^ (x >>> 15);
        x = x * 1406938949;
        return x ^ (x >>> 13);
    }

    private static int f(int k, int j, int r) {
        return h(h(k, j), r) & 65535;
    }

    static int e(int k, int x) {
        int l0 = x >>> 16;
        int r0 = x & 65535;
        int r1 = l0 ^ f(k, 0, r0);
        int r2 = r0 ^ f(k, 1, r1);
        int r3 = r1 ^ f(k, 2, r2);
        int r4 = r2 ^ f(k, 3, r3);
        return (r3 << 16) | r4;
    }

    static int d(int k, int y) {
        int r3 = y >>> 16;
        int r4 = y & 65535;
        int r2 = r4 ^ f(k, 3, r3);
        int r1 = r3 ^ f(k, 2, r2);
        int r0 = r2 ^ f(k, 1, r1);
        int l0 = r1 ^ f(k, 0, r0);
        return (l0 << 16) | r0;
    }

    static int slotKey(int p, int z, int i) {
        int[] u = new int[8];
        u[0] = h(h(p, z), i);
        for (int j = 1; j < 8; j++) {
            u[j] = h(p, u[j - 1]);
        }
        return u[0] ^ u[1] ^ u[2] ^ u[3] ^ u[4] ^ u[5] ^ u[6] ^ u[7];
    }

    private static int[] masks(int[] s) {
        int d = h(s[0], 1);
        int e = h(s[1], 2);
        d = h(d ^ s[2], 1);
        e = h(e ^ s[3], 2);
        return new int[] {d, e};
    }

    static int[] slotFor(int p, int g, int a, int b) {
        int[] s = {h(g, 1), h(g, 2), h(g, 3), h(g, 4), 0, 0};
        int[] masks = masks(s);
        s[4] = masks[0] ^ a;
        s[5] = masks[1] ^ b;
        int[] slot = new int[8];
        slot[0] = 1;
        slot[1] = h(g, 0);
        for (int i = 0; i < 6; i++) {
            slot[2 + i] = e(slotKey(p, slot[1], i % 2), s[i]);
        }
        return slot;
    }

    private int[] opened(int k, int p) {
        int q = 4 + 8 * k;
        int[] s = new int[6];
        for (int i = 0; i < 6; i++) {
            s[i] = d(slotKey(p, disk[q + 1], i % 2), disk[q + 2 + i]);
        }
        int[] masks = masks(s);
        return new int[] {s[4] ^ masks[0], s[5] ^ masks[1]};
    }

    static int tweak(int b, int s, int i) {
        int t = e(b, s);
        for (int j = 0; j < i; j++) {
            t = t < 0 ? (t << 1) ^ 141 : t << 1;
        }
        return t;
    }

    static int kept(int a, int b, int s, int i, int word) {
        int t = tweak(b, s, i);
        return e(a, word ^ t) ^ t;
    }

    /** The disk that a format makes. */
    static int[] volume(int a, int b, int passphrase, int seed) {
        int[] words = new int[80];
        words[0] = MARK;
        words[2] = h(seed, 5);
        words[1] = h(h(a, words[2]), b);
        System.arraycopy(slotFor(passphrase, seed, a, b), 0, words, 4, 8);
        for (int place = 48; place < 80; place++) {
            words[place] = kept(a, b, (place - 48) / 4, place % 4, 0);
        }
        return words;
    }

    private int word(int s, int i) {
        int t = tweak(b, s, i);
        return d(a, disk[48 + 4 * s + i] ^ t) ^ t;
    }

    private void put(int place, int word) throws PowerCut {
        if (cut == 0) {
            throw new PowerCut();
        }
        cut = cut == -1 ? -1 : cut - 1;
        disk[place] = word;
        writes++;
    }

    private int powered(Work work) {
        try {
            return work.done();
        } catch (PowerCut off) {
            cut = -1;
            state = 0;
            return StripedKeyVolume.CUT;
        }
    }

    private int byJournal(int q, int[] words, int answer) {
        return powered(() -> {
            for (int i = 0; i < words.length; i++) {
                put(38 + i, words[i]);
            }
            put(37, q + 256 * words.length);
            put(36, 1);
            finish();
            return answer;
        });
    }

    private void finish() throws PowerCut {
        int q = disk[37] & 255;
        int n = disk[37] >>> 8;
        for (int i = 0; i < n; i++) {
            put(q + i, disk[38 + i]);
        }
        put(36, 0);
        wipe();
    }

    private void wipe() throws PowerCut {
        for (int place = 37; place <= 45; place++) {
            if (disk[place] != 0) {
                put(place, 0);
            }
        }
    }

    boolean cut(int n) {
        if (n < -1) {
            return false;
        }
        cut = n;
        return true;
    }

    int format(int newA, int newB, int passphrase, int seed) {
        int[] volume = volume(newA, newB, passphrase, seed);
        return powered(() -> {
            put(0, 0);
            for (int place = 1; place < 80; place++) {
                put(place, volume[place]);
            }
            put(0, MARK);
            state = 1;
            return 0;
        });
    }

    int mount() {
        if (disk[0] != MARK) {
            state = 0;
            return StripedKeyVolume.NO_VOLUME;
        }
        return powered(() -> {
            if (disk[36] == 1) {
                finish();
            } else {
                wipe();
            }
            state = 1;
            return disk[4] + disk[12] + disk[20] + disk[28];
        });
    }

    int unlock(int passphrase) {
        if (state == 0) {
            return StripedKeyVolume.OFF;
        }
        for (int k = 0; k < 4; k++) {
            int[] keys = opened(k, passphrase);
            if (disk[4 + 8 * k] == 1 && h(h(keys[0], disk[2]), keys[1]) == disk[1]) {
                state = 2;
                a = keys[0];
                b = keys[1];
                return k;
            }
        }
        return StripedKeyVolume.WRONG;
    }

    int lock() {
        if (state == 0) {
            return StripedKeyVolume.OFF;
        }
        int answer = state - 1;
        state = 1;
        return answer;
    }

    int add(int passphrase, int seed) {
        if (state != 2) {
            return state == 0 ? StripedKeyVolume.OFF : StripedKeyVolume.LOCKED;
        }
        for (int k = 0; k < 4; k++) {
            if (disk[4 + 8 * k] == 0) {
                return byJournal(4 + 8 * k, slotFor(passphrase, seed, a, b), k);
            }
        }
        return StripedKeyVolume.FULL;
    }

    int change(int k, int passphrase, int seed) {
        int no = slotRefused(k);
        return no != 0 ? no : byJournal(4 + 8 * k, slotFor(passphrase, seed, a, b), 0);
    }

    int revoke(int k) {
        int no = slotRefused(k);
        if (no != 0) {
            return no;
        }
        if (slots() == 1 << k) {
            return StripedKeyVolume.LAST;
        }
        return byJournal(4 + 8 * k, new int[8], 0);
    }

    private int slotRefused(int k) {
        if (state != 2) {
            return state == 0 ? StripedKeyVolume.OFF : StripedKeyVolume.LOCKED;
        }
        if (k < 0 || k > 3) {
            return StripedKeyVolume.BAD_ARGUMENT;
        }
        return disk[4 + 8 * k] == 1 ? 0 : StripedKeyVolume.NO_SLOT;
    }

    int write(int s, int i, int v) {
        int no = wordRefused(s, i);
        if (no != 0) {
            return no;
        }
        int[] words = new int[4];
        for (int j = 0; j < 4; j++) {
            words[j] = kept(a, b, s, j, j == i ? v : word(s, j));
        }
        return byJournal(48 + 4 * s, words, 0);
    }

    long read(int s, int i) {
        int no = wordRefused(s, i);
        return no != 0 ? no : Integer.toUnsignedLong(word(s, i));
    }

    private int wordRefused(int s, int i) {
        if (state != 2) {
            return state == 0 ? StripedKeyVolume.OFF : StripedKeyVolume.LOCKED;
        }
        return s < 0 || s > 7 || i < 0 || i > 3 ? StripedKeyVolume.BAD_ARGUMENT : 0;
    }

    int slots() {
        return disk[4] + 2 * disk[12] + 4 * disk[20] + 8 * disk[28];
    }

    int peek(int place) {
        return place < 0 || place > 79 ? 0 : disk[place];
    }
}
