import java.util.Arrays;

/** A volume of sectors that are kept enciphered on a disk of words. */
public final class StripedKeyVolume {
    public static final int CUT = -1;
    public static final int OFF = -2;
    public static final int NO_VOLUME = -3;
    public static final int LOCKED = -4;
    public static final int BAD_ARGUMENT = -5;
    public static final int NO_SLOT = -6;
    public static final int FULL = -7;
    public static final int LAST = -8;
    public static final int WRONG = -9;

    private static final int DEVICE_OFF = 0;
    private static final int DEVICE_LOCKED = 1;
    private static final int DEVICE_OPEN = 2;

    private static final int MARK = 1396855379;
    private static final int MARK_PLACE = 0;
    private static final int DIGEST_PLACE = 1;
    private static final int DIGEST_SALT_PLACE = 2;

    private static final int SLOT_COUNT = 4;
    private static final int SLOT_WORDS = 8;
    private static final int FIRST_SLOT_PLACE = 4;

    private static final int SECTOR_COUNT = 8;
    private static final int SECTOR_WORDS = 4;
    private static final int FIRST_SECTOR_PLACE = 48;

    private final Disk disk;
    // The new words of a change are all worked out here before its first write.
    private final int[] fresh;
    private int device;
    private int dataKey;
    private int placeKey;

    public StripedKeyVolume() {
        disk = new Disk();
        fresh = new int[Disk.SIZE];
        device = DEVICE_OFF;
    }

    public boolean cut(int n) {
        if (n < Disk.NO_CUT) {
            return false;
        }
        disk.writesLeft = n;
        return true;
    }

    public int format(int a, int b, int passphrase, int seed) {
        workOutVolume(a, b, passphrase, seed);
        if (!putVolume()) {
            return powerLost();
        }
        holdNoKeys(DEVICE_LOCKED);
        return 0;
    }

    public int mount() {
        if (disk.wordAt(MARK_PLACE) != MARK) {
            holdNoKeys(DEVICE_OFF);
            return NO_VOLUME;
        }
        if (!disk.settleJournal()) {
            return powerLost();
        }
        holdNoKeys(DEVICE_LOCKED);
        return activeSlots();
    }

    public int unlock(int passphrase) {
        if (device == DEVICE_OFF) {
            return OFF;
        }
        for (int k = 0; k < SLOT_COUNT; k++) {
            if (isActive(k) && opensWith(k, passphrase)) {
                return k;
            }
        }
        return WRONG;
    }

    public int lock() {
        if (device == DEVICE_OFF) {
            return OFF;
        }
        int wasOpen = device == DEVICE_OPEN ? 1 : 0;
        holdNoKeys(DEVICE_LOCKED);
        return wasOpen;
    }

    public int add(int passphrase, int seed) {
        int refusal = refusalUnlessOpen();
        if (refusal != 0) {
            return refusal;
        }
        int k = leastFreeSlot();
        if (k == SLOT_COUNT) {
            return FULL;
        }
        return fillSlot(k, passphrase, seed) ? k : powerLost();
    }

    public int change(int k, int passphrase, int seed) {
        int refusal = refusalOfSlot(k);
        if (refusal != 0) {
            return refusal;
        }
        return fillSlot(k, passphrase, seed) ? 0 : powerLost();
    }

    public int revoke(int k) {
        int refusal = refusalOfSlot(k);
        if (refusal != 0) {
            return refusal;
        }
        if (activeSlots() == 1) {
            return LAST;
        }
        return clearSlot(k) ? 0 : powerLost();
    }

    public int write(int s, int i, int v) {
        int refusal = refusalOfWord(s, i);
        if (refusal != 0) {
            return refusal;
        }
        for (int j = 0; j < SECTOR_WORDS; j++) {
            int plain = j == i ? v : plainWord(s, j);
            fresh[j] = Cipher.encipherSectorWord(dataKey, placeKey, s, j, plain);
        }
        return disk.replaceByJournal(sectorPlace(s), SECTOR_WORDS, fresh) ? 0 : powerLost();
    }

    public long read(int s, int i) {
        int refusal = refusalOfWord(s, i);
        if (refusal != 0) {
            return refusal;
        }
        return plainWord(s, i) & 0xFFFFFFFFL;
    }

    public int state() {
        return device;
    }

    public int slots() {
        int sum = 0;
        for (int k = 0; k < SLOT_COUNT; k++) {
            if (isActive(k)) {
                sum += 1 << k;
            }
        }
        return sum;
    }

    public int peek(int place) {
        return disk.wordAt(place);
    }

    public int writes() {
        return disk.writesDone;
    }

    private int powerLost() {
        holdNoKeys(DEVICE_OFF);
        return CUT;
    }

    private void holdNoKeys(int newDevice) {
        device = newDevice;
        dataKey = 0;
        placeKey = 0;
    }

    private int refusalUnlessOpen() {
        if (device == DEVICE_OFF) {
            return OFF;
        }
        return device == DEVICE_LOCKED ? LOCKED : 0;
    }

    private int refusalOfSlot(int k) {
        int refusal = refusalUnlessOpen();
        if (refusal != 0) {
            return refusal;
        }
        if (k < 0 || k >= SLOT_COUNT) {
            return BAD_ARGUMENT;
        }
        return isActive(k) ? 0 : NO_SLOT;
    }

    private int refusalOfWord(int s, int i) {
        int refusal = refusalUnlessOpen();
        if (refusal != 0) {
            return refusal;
        }
        boolean isWord = s >= 0 && s < SECTOR_COUNT && i >= 0 && i < SECTOR_WORDS;
        return isWord ? 0 : BAD_ARGUMENT;
    }

    private void workOutVolume(int a, int b, int passphrase, int seed) {
        Arrays.fill(fresh, 0);
        int digestSalt = Cipher.mix(seed, 5);
        fresh[DIGEST_SALT_PLACE] = digestSalt;
        fresh[DIGEST_PLACE] = Cipher.digest(a, b, digestSalt);
        Slot.workOut(fresh, slotPlace(0), a, b, passphrase, seed);
        for (int s = 0; s < SECTOR_COUNT; s++) {
            for (int i = 0; i < SECTOR_WORDS; i++) {
                fresh[sectorPlace(s) + i] = Cipher.encipherSectorWord(a, b, s, i, 0);
            }
        }
    }

    // The mark goes first and comes back last, so that half a volume is never taken for one.
    private boolean putVolume() {
        if (!disk.put(MARK_PLACE, 0)) {
            return false;
        }
        for (int place = MARK_PLACE + 1; place < Disk.SIZE; place++) {
            if (!disk.put(place, fresh[place])) {
                return false;
            }
        }
        return disk.put(MARK_PLACE, MARK);
    }

    private boolean opensWith(int k, int passphrase) {
        int a = Slot.openHalf(disk, slotPlace(k), 0, passphrase);
        int b = Slot.openHalf(disk, slotPlace(k), 1, passphrase);
        int digestSalt = disk.wordAt(DIGEST_SALT_PLACE);
        if (Cipher.digest(a, b, digestSalt) != disk.wordAt(DIGEST_PLACE)) {
            return false;
        }
        device = DEVICE_OPEN;
        dataKey = a;
        placeKey = b;
        return true;
    }

    private boolean fillSlot(int k, int passphrase, int seed) {
        Slot.workOut(fresh, 0, dataKey, placeKey, passphrase, seed);
        return disk.replaceByJournal(slotPlace(k), SLOT_WORDS, fresh);
    }

    private boolean clearSlot(int k) {
        Arrays.fill(fresh, 0);
        return disk.replaceByJournal(slotPlace(k), SLOT_WORDS, fresh);
    }

    private boolean isActive(int k) {
        return disk.wordAt(slotPlace(k)) == Slot.ACTIVE;
    }

    private int activeSlots() {
        return Integer.bitCount(slots());
    }

    private int leastFreeSlot() {
        int k = 0;
        while (k < SLOT_COUNT && isActive(k)) {
            k++;
        }
        return k;
    }

    private int plainWord(int s, int i) {
        int kept = disk.wordAt(sectorPlace(s) + i);
        return Cipher.decipherSectorWord(dataKey, placeKey, s, i, kept);
    }

    private static int slotPlace(int k) {
        return FIRST_SLOT_PLACE + SLOT_WORDS * k;
    }

    private static int sectorPlace(int s) {
        return FIRST_SECTOR_PLACE + SECTOR_WORDS * s;
    }

    /** The words, the writes that put them there, the cut that may stop these, and the journal. */
    private static final class Disk {
        static final int SIZE = 80;
        static final int NO_CUT = -1;

        private static final int JOURNAL_READY_PLACE = 36;
        private static final int JOURNAL_TARGET_PLACE = 37;
        private static final int JOURNAL_WORDS_PLACE = 38;
        private static final int JOURNAL_LAST_PLACE = 45;
        private static final int JOURNAL_CAPACITY = 8;

        private final int[] words;
        private int writesDone;
        private int writesLeft;

        Disk() {
            words = new int[SIZE];
            writesLeft = NO_CUT;
        }

        int wordAt(int place) {
            return place >= 0 && place < SIZE ? words[place] : 0;
        }

        /** False when the cut stops this write: the caller has to end at once. */
        boolean put(int place, int word) {
            if (writesLeft == 0) {
                writesLeft = NO_CUT;
                return false;
            }
            if (writesLeft > 0) {
                writesLeft--;
            }
            writesDone++;
            if (place >= 0 && place < SIZE) {
                words[place] = word;
            }
            return true;
        }

        boolean replaceByJournal(int target, int count, int[] newWords) {
            for (int i = 0; i < count && i < newWords.length; i++) {
                if (!put(JOURNAL_WORDS_PLACE + i, newWords[i])) {
                    return false;
                }
            }
            return put(JOURNAL_TARGET_PLACE, target + 256 * count)
                && put(JOURNAL_READY_PLACE, 1)
                && finishJournal();
        }

        boolean settleJournal() {
            return wordAt(JOURNAL_READY_PLACE) == 1 ? finishJournal() : clearJournal();
        }

        private boolean finishJournal() {
            int target = wordAt(JOURNAL_TARGET_PLACE) & 255;
            int count = wordAt(JOURNAL_TARGET_PLACE) >>> 8;
            for (int i = 0; i < count && i < JOURNAL_CAPACITY; i++) {
                if (!put(target + i, wordAt(JOURNAL_WORDS_PLACE + i))) {
                    return false;
                }
            }
            return put(JOURNAL_READY_PLACE, 0) && clearJournal();
        }

        private boolean clearJournal() {
            for (int place = JOURNAL_TARGET_PLACE; place <= JOURNAL_LAST_PLACE; place++) {
                if (wordAt(place) != 0 && !put(place, 0)) {
                    return false;
                }
            }
            return true;
        }
    }

    /**
     * How a slot keeps the two master keys. They never meet: the even stripes carry one under one
     * slot key, the odd stripes the other under the other, so each is worked out as a half.
     */
    private static final class Slot {
        static final int ACTIVE = 1;

        private static final int SALT = 1;
        private static final int MATERIAL = 2;

        /** Needs eight words in the row from the given one on. */
        static void workOut(int[] row, int from, int a, int b, int passphrase, int seed) {
            if (from < 0 || from > row.length - SLOT_WORDS) {
                return;
            }
            row[from] = ACTIVE;
            row[from + SALT] = Cipher.mix(seed, 0);
            workOutHalf(row, from, 0, a, passphrase, seed);
            workOutHalf(row, from, 1, b, passphrase, seed);
        }

        private static void workOutHalf(
                int[] row, int from, int half, int masterKey, int passphrase, int seed) {
            int slotKey = Cipher.slotKey(passphrase, row[from + SALT], half);
            int first = Cipher.mix(seed, half + 1);
            int second = Cipher.mix(seed, half + 3);
            int last = mask(first, second, half) ^ masterKey;
            int material = from + MATERIAL + half;
            row[material] = Cipher.encipher(slotKey, first);
            row[material + 2] = Cipher.encipher(slotKey, second);
            row[material + 4] = Cipher.encipher(slotKey, last);
        }

        static int openHalf(Disk disk, int from, int half, int passphrase) {
            int slotKey = Cipher.slotKey(passphrase, disk.wordAt(from + SALT), half);
            int material = from + MATERIAL + half;
            int first = Cipher.decipher(slotKey, disk.wordAt(material));
            int second = Cipher.decipher(slotKey, disk.wordAt(material + 2));
            int last = Cipher.decipher(slotKey, disk.wordAt(material + 4));
            return mask(first, second, half) ^ last;
        }

        private static int mask(int first, int second, int half) {
            return Cipher.mix(Cipher.mix(first, half + 1) ^ second, half + 1);
        }
    }

    private static final class Cipher {
        private static final int ROUNDS = 4;
        private static final int HALF_WORD = 65535;
        private static final int SLOT_KEY_STEPS = 7;

        /** H of the document. */
        static int mix(int a, int b) {
            int x = (a ^ 1517746329) * 916191069 + b;
            x = x ^ (x >>> 15);
            x = x * 1406938949;
            return x ^ (x >>> 13);
        }

        static int encipher(int key, int word) {
            int left = word >>> 16;
            int right = word & HALF_WORD;
            for (int round = 0; round < ROUNDS; round++) {
                int oldLeft = left;
                left = right;
                right = oldLeft ^ roundMask(key, round, right);
            }
            return (left << 16) | right;
        }

        static int decipher(int key, int word) {
            int left = word >>> 16;
            int right = word & HALF_WORD;
            for (int round = ROUNDS - 1; round >= 0; round--) {
                int oldRight = right;
                right = left;
                left = oldRight ^ roundMask(key, round, left);
            }
            return (left << 16) | right;
        }

        private static int roundMask(int key, int round, int half) {
            return mix(mix(key, round), half) & HALF_WORD;
        }

        static int slotKey(int passphrase, int salt, int number) {
            int u = mix(mix(passphrase, salt), number);
            int combined = u;
            for (int step = 0; step < SLOT_KEY_STEPS; step++) {
                u = mix(passphrase, u);
                combined = combined ^ u;
            }
            return combined;
        }

        static int digest(int a, int b, int digestSalt) {
            return mix(mix(a, digestSalt), b);
        }

        static int encipherSectorWord(int a, int b, int s, int i, int plain) {
            int tweak = tweak(b, s, i);
            return encipher(a, plain ^ tweak) ^ tweak;
        }

        static int decipherSectorWord(int a, int b, int s, int i, int kept) {
            int tweak = tweak(b, s, i);
            return decipher(a, kept ^ tweak) ^ tweak;
        }

        // Makes equal words look different at every place of the disk.
        private static int tweak(int b, int s, int i) {
            int t = encipher(b, s);
            for (int doubled = 0; doubled < i; doubled++) {
                t = (t << 1) ^ (t < 0 ? 141 : 0);
            }
            return t;
        }
    }
}
