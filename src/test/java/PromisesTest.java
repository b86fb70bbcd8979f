import java.util.Arrays;
import java.util.function.LongSupplier;

/** One part for each promise of the document: ordinary inputs, the edges it names, wrong inputs. */
public final class PromisesTest {
    private static final int CUT = StripedKeyVolume.CUT;
    private static final int OFF = StripedKeyVolume.OFF;
    private static final int NO_VOLUME = StripedKeyVolume.NO_VOLUME;
    private static final int LOCKED = StripedKeyVolume.LOCKED;
    private static final int BAD_ARGUMENT = StripedKeyVolume.BAD_ARGUMENT;
    private static final int NO_SLOT = StripedKeyVolume.NO_SLOT;
    private static final int FULL = StripedKeyVolume.FULL;
    private static final int LAST = StripedKeyVolume.LAST;
    private static final int WRONG = StripedKeyVolume.WRONG;

    private static final int[] EDGES = {
        Integer.MIN_VALUE, Integer.MIN_VALUE + 1, -65536, -2, -1, 0, 1, 65535, 65536,
        Integer.MAX_VALUE - 1, Integer.MAX_VALUE};

    private static final Checks checks = new Checks("PromisesTest");

    public static void main(String[] args) {
        newObject();
        cut();
        format();
        formatCutShort();
        mount();
        mountSettlesTheJournal();
        unlock();
        unlockHoldsTheWordsOfTheSlot();
        lock();
        add();
        change();
        revoke();
        write();
        writeOfWordsThatAreKeptAsZero();
        read();
        state();
        slots();
        peek();
        writes();
        checks.end();
    }

    // Promise 1

    private static void newObject() {
        checks.part("1 a new object");
        RecordedVolume x = new RecordedVolume();
        due("state()", x.state(), 0);
        due("writes()", x.writes(), 0);
        due("slots()", x.slots(), 0);
        disk("a new disk", x, new int[80]);
        refused(x, "lock()", x::lock, OFF);
        refused(x, "unlock(0)", () -> x.unlock(0), OFF);
        refused(x, "mount()", x::mount, NO_VOLUME);
        due("format with no cut set", x.format(0, 0, 0, 0), 0);
        due("another object is OFF", new RecordedVolume().state(), 0);
        disk("another object's disk", new RecordedVolume(), new int[80]);
    }

    // Promise 2

    private static void cut() {
        checks.part("2 cut");
        RecordedVolume x = new RecordedVolume();
        checks.due("cut(3)", x.cut(3), true);
        checks.due("cut(-2)", x.cut(-2), false);
        checks.due("cut(MIN_VALUE)", x.cut(Integer.MIN_VALUE), false);
        due("format after refused cuts", x.format(1, 2, 3, 4), CUT);
        due("writes()", x.writes(), 3);
        due("state()", x.state(), 0);
        due("format: no cut is set any more", x.format(1, 2, 3, 4), 0);
        due("writes()", x.writes(), 84);

        checks.due("cut(2)", x.cut(2), true);
        checks.due("cut(5), whatever was set before", x.cut(5), true);
        due("format", x.format(1, 2, 3, 4), CUT);
        due("writes()", x.writes(), 89);
        checks.due("cut(2)", x.cut(2), true);
        checks.due("cut(-1)", x.cut(-1), true);
        due("format", x.format(1, 2, 3, 4), 0);
        checks.due("cut(MAX_VALUE)", x.cut(Integer.MAX_VALUE), true);
        due("format", x.format(1, 2, 3, 4), 0);
        due("writes()", x.writes(), 251);

        checks.due("cut(0)", x.cut(0), true);
        int[] before = x.words();
        due("format", x.format(9, 9, 9, 9), CUT);
        disk("cut before the first write", x, before);
        due("writes()", x.writes(), 251);
        due("mount()", x.mount(), 1);

        whatIsLeftOfACutStaysSet();
    }

    private static void whatIsLeftOfACutStaysSet() {
        RecordedVolume x = RecordedVolume.open(1, 2, 3, 4);
        checks.due("cut(20)", x.cut(20), true);
        due("write of 16 writes", x.write(0, 0, 1), 0);
        due("a call without writes", x.read(0, 0), 1);
        due("a refused call", x.write(8, 0, 1), BAD_ARGUMENT);
        due("mount without writes", x.mount(), 1);
        due("unlock(3)", x.unlock(3), 0);
        due("write after 4 writes more", x.write(0, 0, 2), CUT);
        due("writes()", x.writes(), 81 + 20);

        RecordedVolume y = new RecordedVolume();
        checks.due("cut(81)", y.cut(81), true);
        due("format comes to its end", y.format(1, 2, 3, 4), 0);
        due("unlock(3)", y.unlock(3), 0);
        due("the next write is cut", y.add(5, 6), CUT);
        due("writes()", y.writes(), 81);
    }

    // Promise 3

    private static void format() {
        checks.part("3 format");
        RecordedVolume x = new RecordedVolume();
        due("format(11, 22, 333, 4)", x.format(11, 22, 333, 4), 0);
        due("state()", x.state(), 1);
        due("writes()", x.writes(), 81);
        due("peek(0)", x.peek(0), 1396855379);
        due("peek(1)", x.peek(1), 355448405);
        due("peek(2)", x.peek(2), -1302032377);
        due("peek(6)", x.peek(6), -1705796822);
        due("peek(11)", x.peek(11), 649712049);
        due("peek(79)", x.peek(79), 1687745382);
        disk("format(11, 22, 333, 4)", x, Model.volume(11, 22, 333, 4));
        for (int word : EDGES) {
            for (int other : EDGES) {
                due("format", x.format(word, other, other, word), 0);
                disk("format of edges", x, Model.volume(word, other, other, word));
                due("unlock", x.unlock(other), 0);
                due("read", x.read(3, 3), 0);
            }
        }
        formatOverAVolumeInUse();
    }

    private static void formatOverAVolumeInUse() {
        RecordedVolume x = RecordedVolume.open(1, 2, 3, 4);
        x.add(30, 40);
        x.add(31, 41);
        x.add(32, 42);
        x.write(7, 3, 5);
        x.cut(10);
        due("add is FULL", x.add(33, 43), FULL);
        due("change", x.change(2, 33, 43), CUT);
        due("peek(36)", x.peek(36), 1);
        due("format on an OFF device with a journal", x.format(5, 6, 7, 8), 0);
        disk("format", x, Model.volume(5, 6, 7, 8));
        due("state()", x.state(), 1);
        due("unlock(7)", x.unlock(7), 0);
        due("format on an OPEN device", x.format(9, 10, 11, 12), 0);
        due("state()", x.state(), 1);
        due("read", x.read(0, 0), LOCKED);
        due("unlock(7)", x.unlock(7), WRONG);
        disk("format", x, Model.volume(9, 10, 11, 12));
    }

    private static void formatCutShort() {
        checks.part("3 format, cut short");
        int[] old = Model.volume(1, 2, 3, 4);
        int[] fresh = Model.volume(5, 6, 7, 8);
        for (int n = 0; n <= 80; n++) {
            RecordedVolume x = RecordedVolume.open(1, 2, 3, 4);
            x.cut(n);
            due("format cut at " + n, x.format(5, 6, 7, 8), CUT);
            due("state()", x.state(), 0);
            due("writes()", x.writes(), 81 + n);
            int[] want = old.clone();
            for (int place = 0; place < n; place++) {
                want[place] = place == 0 ? 0 : fresh[place];
            }
            disk("format cut at " + n, x, want);
            due("mount()", x.mount(), n == 0 ? 1 : NO_VOLUME);
        }
    }

    // Promise 4

    private static void mount() {
        checks.part("4 mount");
        RecordedVolume x = RecordedVolume.open(1, 2, 3, 4);
        due("mount() when OPEN", x.mount(), 1);
        due("state()", x.state(), 1);
        due("mount() when LOCKED", x.mount(), 1);
        due("writes()", x.writes(), 81);
        x.unlock(3);
        x.add(30, 40);
        x.add(31, 41);
        x.add(32, 42);
        due("mount() of four slots", x.mount(), 4);
        x.unlock(31);
        x.revoke(0);
        due("mount() of slots 1, 2, 3", x.mount(), 3);
        x.cut(1);
        due("format", x.format(1, 2, 3, 4), CUT);
        refused(x, "mount() without the mark", x::mount, NO_VOLUME);
        x.cut(0);
        due("mount() leaves the cut", x.mount(), NO_VOLUME);
        due("format", x.format(1, 2, 3, 4), CUT);
    }

    private static void mountSettlesTheJournal() {
        checks.part("4 mount, the journal");
        int[] old = Model.volume(1, 2, 3, 4);
        int[] changed = old.clone();
        System.arraycopy(Model.slotFor(30, 40, 1, 2), 0, changed, 12, 8);
        for (int n = 0; n < 28; n++) {
            boolean ready = n >= 10;
            RecordedVolume x = RecordedVolume.open(1, 2, 3, 4);
            x.cut(n);
            due("add cut at " + n, x.add(30, 40), CUT);
            due("state()", x.state(), 0);
            due("peek(36) after " + n, x.peek(36), n >= 10 && n < 19 ? 1 : 0);
            due("peek(37) after " + n, x.peek(37), n >= 9 && n < 20 ? 12 + 256 * 8 : 0);
            due("mount() after " + n, x.mount(), ready ? 2 : 1);
            due("state()", x.state(), 1);
            disk("mount() after " + n, x, ready ? changed : old);
            due("writes() after " + n, x.writes() - 81 - n, mountWrites(n));
            due("unlock(30) after " + n, x.unlock(30), ready ? 1 : WRONG);
        }
        mountIsCutToo();
    }

    /** Writes of a mount after n of the 28 writes of an add: 10 + 8 + 1 + 9, none of a word 0. */
    private static int mountWrites(int n) {
        if (n < 10) {
            return n;
        }
        return n < 19 ? 8 + 1 + 9 : 28 - n;
    }

    private static void mountIsCutToo() {
        int[] changed = Model.volume(1, 2, 3, 4);
        System.arraycopy(Model.slotFor(30, 40, 1, 2), 0, changed, 12, 8);
        for (int n = 0; n < 18; n++) {
            RecordedVolume x = RecordedVolume.open(1, 2, 3, 4);
            x.cut(10);
            x.add(30, 40);
            x.cut(n);
            due("mount() cut at " + n, x.mount(), CUT);
            due("state()", x.state(), 0);
            due("writes()", x.writes(), 81 + 10 + n);
            due("unlock(3)", x.unlock(3), OFF);
            due("mount()", x.mount(), 2);
            disk("mount() again after " + n, x, changed);
        }
        RecordedVolume y = RecordedVolume.open(1, 2, 3, 4);
        y.cut(9);
        y.add(30, 40);
        y.cut(4);
        due("mount() that clears, cut at 4", y.mount(), CUT);
        due("peek(40)", y.peek(40), 0);
        due("peek(41)", y.peek(41), Model.slotFor(30, 40, 1, 2)[3]);
        due("mount()", y.mount(), 1);
        disk("mount()", y, Model.volume(1, 2, 3, 4));
    }

    // Promise 5

    private static void unlock() {
        checks.part("5 unlock");
        RecordedVolume x = new RecordedVolume();
        refused(x, "unlock when OFF", () -> x.unlock(3), OFF);
        x.format(1, 2, 3, 4);
        refused(x, "unlock(4)", () -> x.unlock(4), WRONG);
        refused(x, "unlock(-3)", () -> x.unlock(-3), WRONG);
        due("unlock(3)", x.unlock(3), 0);
        due("state()", x.state(), 2);
        due("writes()", x.writes(), 81);
        due("write", x.write(1, 1, 77), 0);
        refused(x, "unlock(4) when OPEN", () -> x.unlock(4), WRONG);
        due("an OPEN device stays OPEN as it was", x.read(1, 1), 77);
        due("unlock(3) when OPEN", x.unlock(3), 0);
        due("state()", x.state(), 2);
        x.add(30, 40);
        x.add(3, 50);
        x.add(30, 60);
        due("unlock(30): the first that succeeds", x.unlock(30), 1);
        due("unlock(3): the first that succeeds", x.unlock(3), 0);
        x.revoke(0);
        due("unlock(3)", x.unlock(3), 2);
        x.revoke(1);
        due("unlock(30)", x.unlock(30), 3);
        due("read", x.read(1, 1), 77);
        x.cut(0);
        x.write(0, 0, 0);
        refused(x, "unlock after a cut", () -> x.unlock(30), OFF);
        slotsThatAreNotActiveDoNotOpen();
    }

    // A slot of zeros is opened by nobody, even when its two words happen to have the digest.
    private static void slotsThatAreNotActiveDoNotOpen() {
        RecordedVolume x = new RecordedVolume();
        int p = 77;
        int key0 = Model.slotKey(p, 0, 0);
        int key1 = Model.slotKey(p, 0, 1);
        int s0 = Model.d(key0, 0);
        int s1 = Model.d(key1, 0);
        int a = s0 ^ Model.h(Model.h(s0, 1) ^ s0, 1);
        int b = s1 ^ Model.h(Model.h(s1, 2) ^ s1, 2);
        x.format(a, b, 3, 4);
        refused(x, "unlock with the words of a slot of 0", () -> x.unlock(p), WRONG);
        due("unlock(3)", x.unlock(3), 0);
    }

    private static void unlockHoldsTheWordsOfTheSlot() {
        checks.part("5 unlock, another pair of words with the digest");
        RecordedVolume x = new RecordedVolume();
        x.format(11, 22, 333, 5);
        due("unlock by chance", x.unlock(ChanceKeys.PASSPHRASE), 0);
        due("state()", x.state(), 2);
        int kept = x.peek(48 + 4 * 2 + 1);
        int t = Model.tweak(ChanceKeys.B, 2, 1);
        int word = Model.d(ChanceKeys.A, kept ^ t) ^ t;
        due("read(2, 1)", x.read(2, 1), Integer.toUnsignedLong(word));
        due("write(2, 1, 5)", x.write(2, 1, 5), 0);
        due("read(2, 1)", x.read(2, 1), 5);
        due("peek", x.peek(48 + 4 * 2 + 1), Model.kept(ChanceKeys.A, ChanceKeys.B, 2, 1, 5));
        due("peek", x.peek(48 + 4 * 2), Model.kept(11, 22, 2, 0, 0));
        due("add(9, 99)", x.add(9, 99), 1);
        words("the slot for 9", x, 12, Model.slotFor(9, 99, ChanceKeys.A, ChanceKeys.B));
        due("unlock(333)", x.unlock(333), 0);
        due("read(2, 0)", x.read(2, 0), 0);
        due("unlock(9)", x.unlock(9), 1);
        due("read(2, 1)", x.read(2, 1), 5);
        due("unlock(8)", x.unlock(8), WRONG);
        due("read(2, 1): as it was", x.read(2, 1), 5);
        due("change(0, 8, 98)", x.change(0, 8, 98), 0);
        words("the slot for 8", x, 4, Model.slotFor(8, 98, ChanceKeys.A, ChanceKeys.B));
    }

    // Promise 6

    private static void lock() {
        checks.part("6 lock");
        RecordedVolume x = new RecordedVolume();
        refused(x, "lock() when OFF", x::lock, OFF);
        x.format(1, 2, 3, 4);
        due("lock() when LOCKED", x.lock(), 0);
        x.unlock(3);
        due("lock() when OPEN", x.lock(), 1);
        due("state()", x.state(), 1);
        due("lock() again", x.lock(), 0);
        due("read", x.read(0, 0), LOCKED);
        due("writes()", x.writes(), 81);
        disk("lock()", x, Model.volume(1, 2, 3, 4));
        due("unlock(3)", x.unlock(3), 0);
        x.cut(0);
        x.revoke(0);
        due("a refused call is not cut", x.state(), 2);
        x.write(0, 0, 0);
        refused(x, "lock() after a cut", x::lock, OFF);
    }

    // Promise 7

    private static void add() {
        checks.part("7 add");
        RecordedVolume x = new RecordedVolume();
        refused(x, "add when OFF", () -> x.add(1, 1), OFF);
        x.format(1, 2, 3, 4);
        refused(x, "add when LOCKED", () -> x.add(1, 1), LOCKED);
        x.unlock(3);
        int[] want = Model.volume(1, 2, 3, 4);
        for (int k = 1; k < 4; k++) {
            int before = x.writes();
            due("add", x.add(30 + k, 40 + k), k);
            due("writes of an add", x.writes() - before, 10 + 8 + 1 + 9);
            System.arraycopy(Model.slotFor(30 + k, 40 + k, 1, 2), 0, want, 4 + 8 * k, 8);
            disk("add", x, want);
            due("state()", x.state(), 2);
        }
        refused(x, "add when all are ACTIVE", () -> x.add(5, 5), FULL);
        x.lock();
        refused(x, "add when LOCKED and all are ACTIVE", () -> x.add(5, 5), LOCKED);
        x.unlock(33);
        x.revoke(2);
        x.revoke(1);
        due("add: the least that is not ACTIVE", x.add(3, 4), 1);
        words("the same passphrase and seed as slot 0", x, 12, Model.slotFor(3, 4, 1, 2));
        due("add", x.add(Integer.MIN_VALUE, Integer.MAX_VALUE), 2);
        due("unlock", x.unlock(Integer.MIN_VALUE), 2);
        x.revoke(0);
        due("add", x.add(0, 0), 0);
        due("slots()", x.slots(), 15);
    }

    // Promise 8

    private static void change() {
        checks.part("8 change");
        RecordedVolume x = new RecordedVolume();
        refused(x, "change when OFF", () -> x.change(0, 1, 1), OFF);
        refused(x, "change(4) when OFF", () -> x.change(4, 1, 1), OFF);
        x.format(1, 2, 3, 4);
        refused(x, "change when LOCKED", () -> x.change(0, 1, 1), LOCKED);
        refused(x, "change(-1) when LOCKED", () -> x.change(-1, 1, 1), LOCKED);
        refused(x, "change(1) when LOCKED", () -> x.change(1, 1, 1), LOCKED);
        x.unlock(3);
        for (int k : new int[] {-1, 4, Integer.MIN_VALUE, Integer.MAX_VALUE, 1 << 29}) {
            refused(x, "change(" + k + ")", () -> x.change(k, 1, 1), BAD_ARGUMENT);
        }
        for (int k = 1; k < 4; k++) {
            int slot = k;
            refused(x, "change(" + k + ")", () -> x.change(slot, 1, 1), NO_SLOT);
        }
        due("change(0, 30, 40)", x.change(0, 30, 40), 0);
        int[] want = Model.volume(1, 2, 3, 4);
        System.arraycopy(Model.slotFor(30, 40, 1, 2), 0, want, 4, 8);
        disk("change", x, want);
        due("writes()", x.writes(), 81 + 28);
        due("state()", x.state(), 2);
        due("unlock(3)", x.unlock(3), WRONG);
        due("unlock(30)", x.unlock(30), 0);
        for (int k = 1; k < 4; k++) {
            x.add(50 + k, 60);
            due("change(" + k + ")", x.change(k, 70 + k, 80), 0);
            System.arraycopy(Model.slotFor(70 + k, 80, 1, 2), 0, want, 4 + 8 * k, 8);
            disk("change(" + k + ")", x, want);
        }
        for (int n = 0; n < 28; n++) {
            due("change cut at " + n, cutChange(n), n < 10 ? 3 : 5);
        }
    }

    /** The passphrase that opens the slot after a change from 3 to 5 that was cut. */
    private static int cutChange(int n) {
        RecordedVolume x = RecordedVolume.open(1, 2, 3, 4);
        x.cut(n);
        due("change cut at " + n, x.change(0, 5, 6), CUT);
        due("state()", x.state(), 0);
        due("writes()", x.writes(), 81 + n);
        due("mount()", x.mount(), 1);
        int found = 0;
        for (int p : new int[] {3, 5}) {
            found += x.unlock(p) == 0 ? p : 0;
        }
        return found;
    }

    // Promise 9

    private static void revoke() {
        checks.part("9 revoke");
        RecordedVolume x = new RecordedVolume();
        refused(x, "revoke when OFF", () -> x.revoke(0), OFF);
        refused(x, "revoke(-1) when OFF", () -> x.revoke(-1), OFF);
        x.format(1, 2, 3, 4);
        refused(x, "revoke when LOCKED", () -> x.revoke(0), LOCKED);
        refused(x, "revoke(4) when LOCKED", () -> x.revoke(4), LOCKED);
        x.unlock(3);
        for (int k : new int[] {-1, 4, Integer.MIN_VALUE, Integer.MAX_VALUE, 1 << 29}) {
            refused(x, "revoke(" + k + ")", () -> x.revoke(k), BAD_ARGUMENT);
        }
        refused(x, "revoke(3)", () -> x.revoke(3), NO_SLOT);
        refused(x, "revoke(0) of the last", () -> x.revoke(0), LAST);
        x.add(30, 40);
        int[] want = Model.volume(1, 2, 3, 4);
        Arrays.fill(want, 4, 12, 0);
        System.arraycopy(Model.slotFor(30, 40, 1, 2), 0, want, 12, 8);
        int before = x.writes();
        due("revoke(0)", x.revoke(0), 0);
        due("writes: words 0 of the journal need no clearing", x.writes() - before, 10 + 8 + 1 + 1);
        disk("revoke(0)", x, want);
        due("state()", x.state(), 2);
        due("an OPEN device stays OPEN", x.read(0, 0), 0);
        refused(x, "revoke(0) again", () -> x.revoke(0), NO_SLOT);
        refused(x, "revoke(1) of the last", () -> x.revoke(1), LAST);
        due("unlock(3)", x.unlock(3), WRONG);
        due("unlock(30)", x.unlock(30), 1);
        revokeEachSlot();
        for (int n = 0; n < 20; n++) {
            revokeCutAt(n);
        }
    }

    private static void revokeEachSlot() {
        for (int k = 0; k < 4; k++) {
            RecordedVolume x = RecordedVolume.open(1, 2, 3, 4);
            x.add(31, 41);
            x.add(32, 42);
            x.add(33, 43);
            int[] want = x.words();
            Arrays.fill(want, 4 + 8 * k, 12 + 8 * k, 0);
            due("revoke(" + k + ")", x.revoke(k), 0);
            disk("revoke(" + k + ")", x, want);
            due("slots()", x.slots(), 15 - (1 << k));
        }
    }

    private static void revokeCutAt(int n) {
        RecordedVolume x = RecordedVolume.open(1, 2, 3, 4);
        x.add(31, 41);
        int before = x.writes();
        x.cut(n);
        due("revoke cut at " + n, x.revoke(0), CUT);
        due("writes()", x.writes() - before, n);
        due("state()", x.state(), 0);
        due("mount() after " + n, x.mount(), n < 10 ? 2 : 1);
        due("slots() after " + n, x.slots(), n < 10 ? 3 : 2);
    }

    // Promise 10

    private static void write() {
        checks.part("10 write");
        RecordedVolume x = new RecordedVolume();
        refused(x, "write when OFF", () -> x.write(0, 0, 1), OFF);
        refused(x, "write(8, 0) when OFF", () -> x.write(8, 0, 1), OFF);
        x.format(1, 2, 3, 4);
        refused(x, "write when LOCKED", () -> x.write(0, 0, 1), LOCKED);
        refused(x, "write(0, 4) when LOCKED", () -> x.write(0, 4, 1), LOCKED);
        x.unlock(3);
        for (int bad : new int[] {-1, 8, Integer.MIN_VALUE, Integer.MAX_VALUE, 1 << 30}) {
            refused(x, "write(" + bad + ", 0)", () -> x.write(bad, 0, 1), BAD_ARGUMENT);
        }
        for (int bad : new int[] {-1, 4, 5, Integer.MIN_VALUE, Integer.MAX_VALUE}) {
            refused(x, "write(0, " + bad + ")", () -> x.write(0, bad, 1), BAD_ARGUMENT);
        }
        refused(x, "write(-1, 4)", () -> x.write(-1, 4, 1), BAD_ARGUMENT);
        int[] want = Model.volume(1, 2, 3, 4);
        for (int s = 0; s < 8; s++) {
            for (int i = 0; i < 4; i++) {
                int v = EDGES[(4 * s + i) % EDGES.length];
                int before = x.writes();
                due("write(" + s + ", " + i + ")", x.write(s, i, v), 0);
                due("writes of a write", x.writes() - before, 6 + 4 + 1 + 5);
                want[48 + 4 * s + i] = Model.kept(1, 2, s, i, v);
                disk("write(" + s + ", " + i + ")", x, want);
            }
        }
        due("writes()", x.writes(), 81 + 32 * 16);
        due("write of the same word", x.write(5, 2, EDGES[0]), 0);
        due("is written all the same", x.writes(), 81 + 33 * 16);
        for (int n = 0; n < 16; n++) {
            writeCutAt(n);
        }
    }

    private static void writeCutAt(int n) {
        RecordedVolume x = RecordedVolume.open(1, 2, 3, 4);
        x.write(6, 1, 11);
        x.write(6, 2, 12);
        int before = x.writes();
        x.cut(n);
        due("write cut at " + n, x.write(6, 1, 13), CUT);
        due("writes()", x.writes() - before, n);
        due("state()", x.state(), 0);
        due("read()", x.read(6, 1), OFF);
        due("peek(38) after " + n, x.peek(38), n > 0 && n < 13 ? Model.kept(1, 2, 6, 0, 0) : 0);
        due("peek(37) after " + n, x.peek(37), n > 4 && n < 12 ? 72 + 256 * 4 : 0);
        due("mount()", x.mount(), 1);
        due("unlock(3)", x.unlock(3), 0);
        due("read(6, 1) after " + n, x.read(6, 1), n < 6 ? 11 : 13);
        due("read(6, 2) after " + n, x.read(6, 2), 12);
    }

    private static void writeOfWordsThatAreKeptAsZero() {
        checks.part("10 write, a word kept as 0");
        for (int i = 0; i < 4; i++) {
            RecordedVolume x = RecordedVolume.open(1, 2, 3, 4);
            int t = Model.tweak(2, 3, i);
            int v = Model.d(1, t) ^ t;
            due("write(3, " + i + ")", x.write(3, i, v), 0);
            due("peek", x.peek(48 + 4 * 3 + i), 0);
            due("a word 0 of the journal needs no clearing", x.writes(), 81 + 15);
            due("read(3, " + i + ")", x.read(3, i), Integer.toUnsignedLong(v));
        }
    }

    // Promise 11

    private static void read() {
        checks.part("11 read");
        RecordedVolume x = new RecordedVolume();
        refused(x, "read when OFF", () -> x.read(0, 0), OFF);
        refused(x, "read(8, 0) when OFF", () -> x.read(8, 0), OFF);
        x.format(1, 2, 3, 4);
        refused(x, "read when LOCKED", () -> x.read(0, 0), LOCKED);
        refused(x, "read(0, -1) when LOCKED", () -> x.read(0, -1), LOCKED);
        x.unlock(3);
        for (int bad : new int[] {-1, 8, Integer.MIN_VALUE, Integer.MAX_VALUE, 1 << 30}) {
            refused(x, "read(" + bad + ", 0)", () -> x.read(bad, 0), BAD_ARGUMENT);
        }
        for (int bad : new int[] {-1, 4, 5, Integer.MIN_VALUE, Integer.MAX_VALUE}) {
            refused(x, "read(0, " + bad + ")", () -> x.read(0, bad), BAD_ARGUMENT);
        }
        for (int place = 0; place < 32; place++) {
            due("read of a new volume", x.read(place / 4, place % 4), 0);
        }
        for (int v : EDGES) {
            x.write(4, 2, v);
            due("read(4, 2)", x.read(4, 2), v < 0 ? v + 4294967296L : v);
            due("read(4, 1)", x.read(4, 1), 0);
            due("read(4, 3)", x.read(4, 3), 0);
        }
        x.write(0, 0, -1);
        refused(x, "read of -1", () -> x.read(0, 0), 4294967295L);
        x.write(0, 0, -2);
        refused(x, "read of -2 is not OFF", () -> x.read(0, 0), 4294967294L);
    }

    // Promise 12

    private static void state() {
        checks.part("12 state");
        RecordedVolume x = new RecordedVolume();
        due("state() OFF", x.state(), 0);
        x.format(1, 2, 3, 4);
        due("state() LOCKED", x.state(), 1);
        x.unlock(3);
        due("state() OPEN", x.state(), 2);
        refused(x, "state()", x::state, 2);
        x.lock();
        due("state() LOCKED", x.state(), 1);
        x.unlock(3);
        x.mount();
        due("state() after mount", x.state(), 1);
        x.cut(0);
        x.format(1, 2, 3, 4);
        due("state() after a cut", x.state(), 0);
        x.mount();
        due("state() after mount", x.state(), 1);
    }

    // Promise 13

    private static void slots() {
        checks.part("13 slots");
        RecordedVolume x = new RecordedVolume();
        due("slots() of a new object", x.slots(), 0);
        x.cut(4);
        x.format(1, 2, 3, 4);
        due("slots() before place 4 is written", x.slots(), 0);
        x.cut(5);
        x.format(1, 2, 3, 4);
        due("slots() when OFF, as the disk says", x.slots(), 1);
        x.format(1, 2, 3, 4);
        refused(x, "slots() when LOCKED", x::slots, 1);
        x.unlock(3);
        int[] want = {3, 7, 15};
        for (int k = 1; k < 4; k++) {
            x.add(k, k);
            due("slots()", x.slots(), want[k - 1]);
        }
        x.revoke(1);
        due("slots() without slot 1", x.slots(), 13);
        x.revoke(0);
        due("slots() without slots 0 and 1", x.slots(), 12);
        x.revoke(2);
        due("slots(): slot 3 alone", x.slots(), 8);
        x.cut(10);
        x.add(5, 5);
        due("slots(): a journal is not counted", x.slots(), 8);
        x.mount();
        due("slots()", x.slots(), 9);
    }

    // Promise 14

    private static void peek() {
        checks.part("14 peek");
        RecordedVolume x = new RecordedVolume();
        x.cut(60);
        x.format(11, 22, 333, 4);
        int[] want = Model.volume(11, 22, 333, 4);
        for (int place = 1; place < 60; place++) {
            due("peek(" + place + ") when OFF", x.peek(place), want[place]);
        }
        x.format(11, 22, 333, 4);
        for (int place = 0; place < 80; place++) {
            due("peek(" + place + ")", x.peek(place), want[place]);
        }
        for (int bad : new int[] {-1, 80, 81, -80, 256, Integer.MIN_VALUE, Integer.MAX_VALUE}) {
            refused(x, "peek(" + bad + ")", () -> x.peek(bad), 0);
        }
        refused(x, "peek(79)", () -> x.peek(79), 1687745382);
    }

    // Promise 15

    private static void writes() {
        checks.part("15 writes");
        RecordedVolume x = new RecordedVolume();
        due("writes()", x.writes(), 0);
        x.mount();
        x.cut(7);
        due("writes() after calls without one", x.writes(), 0);
        x.format(1, 2, 3, 4);
        due("the write that is not done does not count", x.writes(), 7);
        x.format(1, 2, 3, 4);
        due("writes()", x.writes(), 88);
        refused(x, "writes()", x::writes, 88);
        x.unlock(3);
        x.lock();
        x.unlock(3);
        x.read(0, 0);
        x.slots();
        x.peek(0);
        due("writes() after calls without one", x.writes(), 88);
        x.add(5, 6);
        due("writes() after add", x.writes(), 88 + 28);
        x.change(1, 7, 8);
        due("writes() after change", x.writes(), 88 + 56);
        x.revoke(1);
        due("writes() after revoke", x.writes(), 88 + 76);
        x.write(0, 0, 0);
        due("writes() after write", x.writes(), 88 + 92);
        for (int i = 0; i < 400; i++) {
            x.format(i, i, i, i);
        }
        due("writes() after 400 formats", x.writes(), 180 + 400 * 81);
    }

    // What the parts share

    private static void due(String call, long got, long want) {
        checks.due(call, got, want);
    }

    private static void refused(RecordedVolume x, String call, LongSupplier made, long want) {
        checks.refused(x, call, made, want);
    }

    private static void disk(String call, RecordedVolume x, int[] want) {
        checks.disk(call, x, want);
    }

    private static void words(String call, RecordedVolume x, int from, int[] want) {
        checks.words(call, x, from, want);
    }
}
