import java.util.function.ToLongFunction;

/** A part for each sentence of the document's "What it is" and "Terms" that names a boundary. */
public final class TermsBoundaryTest {
    private static final int CUT = StripedKeyVolume.CUT;
    private static final int OFF = StripedKeyVolume.OFF;
    private static final int NO_VOLUME = StripedKeyVolume.NO_VOLUME;
    private static final int LOCKED = StripedKeyVolume.LOCKED;
    private static final int BAD_ARGUMENT = StripedKeyVolume.BAD_ARGUMENT;
    private static final int NO_SLOT = StripedKeyVolume.NO_SLOT;
    private static final int FULL = StripedKeyVolume.FULL;
    private static final int LAST = StripedKeyVolume.LAST;
    private static final int WRONG = StripedKeyVolume.WRONG;

    private static final int MIN = Integer.MIN_VALUE;
    private static final int MAX = Integer.MAX_VALUE;

    // H(this, 0) is 0: the salt of a slot with this seed.
    private static final int SEED_OF_SALT_0 = 1517746329;
    // H(this, 5) is 0: the digest salt of a volume with this seed.
    private static final int SEED_OF_DIGEST_SALT_0 = 184053678;

    private static final Checks checks = new Checks("TermsBoundaryTest");

    public static void main(String[] args) {
        theLastOf512Calls();
        sumsAndProductsWrapAround();
        halvesOfAWordHaveNoSign();
        oneWordForEveryEncipheredWord();
        wordsThatAreNotUsedStay0();
        saltsAndDigestOf0();
        slotsThatAreNotActiveDoNotOpen();
        theDigestDecides();
        doublingAtItsEdges();
        theSameWordIsAWriteToo();
        theNextWriteIsNotDone();
        theCallEndsAtOnce();
        noCutIsSetAnyMore();
        aCallThatEndsDoesNotNoticeTheCut();
        whatIsLeftOfTheCutStaysSet();
        journalOfEightWords();
        journalOfFourWords();
        journalWordsThatAre0AreNotWritten();
        refusedCallsOfAnOffDevice();
        refusedCallsOfALockedDevice();
        refusedCallsOfAnOpenDevice();
        refusedMount();
        checks.end();
    }

    private static void theLastOf512Calls() {
        checks.part("'An object is used for at most 512 calls'");
        lastCall("write", x -> x.write(7, 3, -1), 0);
        lastCall("read", x -> x.read(7, 3), 4294967295L);
        lastCall("add", x -> x.add(5, 6), 1);
        lastCall("change", x -> x.change(0, 5, 6), 0);
        lastCall("revoke", x -> x.revoke(0), LAST);
        lastCall("mount", x -> x.mount(), 1);
        lastCall("lock", x -> x.lock(), 1);
        lastCall("unlock", x -> x.unlock(3), 0);
        lastCall("format", x -> x.format(1, 2, 3, 4), 0);
        lastCall("state", x -> x.state(), 2);
        lastCall("slots", x -> x.slots(), 1);
        lastCall("peek", x -> x.peek(0), 1396855379);
        lastCall("writes", x -> x.writes(), 81 + 16 * 509);
        lastCall("cut", x -> x.cut(-2) ? 1 : 0, 0);
    }

    private static void lastCall(String name, ToLongFunction<RecordedVolume> call, long want) {
        RecordedVolume x = RecordedVolume.open(1, 2, 3, 4);
        while (x.callsMade() < RecordedVolume.CALLS_AT_MOST - 1) {
            due("write", x.write(7, 3, -1), 0);
        }
        due(name + " as the 512th call", call.applyAsLong(x), want);
    }

    private static void sumsAndProductsWrapAround() {
        checks.part("'sums, products and shifts are those of int'");
        int[] words = {0, 1, -1, MIN, MAX, 1517746329, ~1517746329, 916191069, 1406938949};
        for (int seed : words) {
            for (int a : words) {
                int b = ~a;
                RecordedVolume x = new RecordedVolume();
                x.format(a, b, 3, seed);
                int digestSalt = WideMath.h(seed, 5);
                due("peek(2), H(" + seed + ", 5)", x.peek(2), digestSalt);
                due("peek(1)", x.peek(1), WideMath.h(WideMath.h(a, digestSalt), b));
                due("peek(5), H(" + seed + ", 0)", x.peek(5), WideMath.h(seed, 0));
                due("unlock(3)", x.unlock(3), 0);
            }
        }
    }

    private static void halvesOfAWordHaveNoSign() {
        checks.part("'l is x >>> 16, r is x & 65535'");
        int[] words = {0, 1, 0x7FFF, 0x8000, 0xFFFF, 0x10000, 0x7FFF0000, MIN, 0xFFFF0000, -1,
            0x80008000, 0x7FFF7FFF, MAX};
        int t = WideMath.e(-2, 5);
        for (int enciphered : words) {
            RecordedVolume x = RecordedVolume.open(-1, -2, 3, 4);
            due("write", x.write(5, 0, enciphered ^ t), 0);
            due("peek(68), E(-1, " + enciphered + ")", x.peek(68), WideMath.e(-1, enciphered) ^ t);
        }
    }

    private static void oneWordForEveryEncipheredWord() {
        checks.part("'D(k, y) is the x with E(k, x) = y (there is just one)'");
        int[] keys = {0, -1, MIN, MAX, 65535, 65536};
        for (int key : keys) {
            RecordedVolume x = RecordedVolume.open(key, ~key, 3, 4);
            for (int bit = 0; bit < 32; bit++) {
                int v = 1 << bit;
                due("write", x.write(bit % 8, bit / 8, v), 0);
                due("read", x.read(bit % 8, bit / 8), Integer.toUnsignedLong(v));
                due("write", x.write(bit % 8, bit / 8, ~v), 0);
                due("read", x.read(bit % 8, bit / 8), Integer.toUnsignedLong(~v));
            }
        }
    }

    private static void wordsThatAreNotUsedStay0() {
        checks.part("'Words 3, 46 and 47 are not used and stay 0'");
        for (int n = 0; n <= 81; n++) {
            RecordedVolume x = new RecordedVolume();
            x.cut(n);
            x.format(-1, -1, -1, -1);
            unusedWords(x);
        }
        RecordedVolume x = RecordedVolume.open(-1, -1, -1, -1);
        for (int k = 1; k < 4; k++) {
            x.add(k, k);
            unusedWords(x);
            x.change(k, -k, -k);
            unusedWords(x);
        }
        for (int word = 0; word < 32; word++) {
            x.write(word / 4, word % 4, -1);
            unusedWords(x);
        }
        x.revoke(3);
        unusedWords(x);
        for (int n = 0; n < 28; n++) {
            RecordedVolume y = x.twin();
            y.cut(n);
            due("add cut at " + n, y.add(5, 5), CUT);
            unusedWords(y);
            y.mount();
            unusedWords(y);
        }
    }

    private static void unusedWords(RecordedVolume x) {
        due("peek(3)", x.peek(3), 0);
        due("peek(46)", x.peek(46), 0);
        due("peek(47)", x.peek(47), 0);
    }

    private static void saltsAndDigestOf0() {
        checks.part("'the salt is H(g, 0)', 'the DIGEST SALT H(seed, 5)', a DIGEST of 0");
        RecordedVolume x = RecordedVolume.open(1, 2, 3, SEED_OF_SALT_0);
        due("peek(5), a salt of 0", x.peek(5), 0);
        due("peek(4), ACTIVE all the same", x.peek(4), 1);
        due("state()", x.state(), 2);
        due("slots()", x.slots(), 1);

        RecordedVolume y = RecordedVolume.open(1, 2, 3, SEED_OF_DIGEST_SALT_0);
        due("peek(2), a digest salt of 0", y.peek(2), 0);
        due("state()", y.state(), 2);

        int salt = Model.h(4, 5);
        int b = -(Model.h(1, salt) ^ 1517746329) * 916191069;
        RecordedVolume z = RecordedVolume.open(1, b, 3, 4);
        due("peek(1), a digest of 0", z.peek(1), 0);
        due("state()", z.state(), 2);
        due("unlock(4)", z.unlock(4), WRONG);
    }

    private static void slotsThatAreNotActiveDoNotOpen() {
        checks.part("'SUCCEEDS when the slot is ACTIVE'");
        int p = 77;
        int s0 = Model.d(Model.slotKey(p, 0, 0), 0);
        int s1 = Model.d(Model.slotKey(p, 0, 1), 0);
        int a = s0 ^ Model.h(Model.h(s0, 1) ^ s0, 1);
        int b = s1 ^ Model.h(Model.h(s1, 2) ^ s1, 2);
        RecordedVolume x = new RecordedVolume();
        x.format(a, b, 3, 4);
        checks.refused(x, "unlock with the words of a slot of 0", () -> x.unlock(p), WRONG);
        x.unlock(3);
        checks.refused(x, "unlock with the words of a slot of 0", () -> x.unlock(p), WRONG);
        x.add(p, SEED_OF_SALT_0);
        due("unlock of the slot that is ACTIVE then", x.unlock(p), 1);
        x.revoke(1);
        checks.refused(x, "unlock of a slot revoked", () -> x.unlock(p), WRONG);
    }

    // The passphrases were found by trying all of them: they give words whose digest is but one
    // bit off.
    private static void theDigestDecides() {
        checks.part("'the DIGEST of these two words is word 1'");
        RecordedVolume x = new RecordedVolume();
        x.format(11, 22, 333, 5);
        int[] oneBitOff = {942278683, 1651100009, -1703685840, -1901994275, 1225871571};
        for (int p : oneBitOff) {
            checks.refused(x, "unlock(" + p + ")", () -> x.unlock(p), WRONG);
        }
        due("unlock of words with the digest", x.unlock(ChanceKeys.PASSPHRASE), 0);
        due("write", x.write(0, 0, 9), 0);
        due("peek(48)", x.peek(48), Model.kept(ChanceKeys.A, ChanceKeys.B, 0, 0, 9));
        RecordedVolume y = new RecordedVolume();
        y.format(11, 752590791, 333, 5);
        checks.refused(y, "unlock with the lowest bit off", () -> y.unlock(334), WRONG);
    }

    // The place keys were found by trying all of them: E(b, s) is the first of the four words.
    private static void doublingAtItsEdges() {
        checks.part("'(t << 1) ^ (141 if t is below 0, else 0)'");
        doubling(-425079348, 0, 0, 0, 0, 0);
        doubling(-491931754, 1, 1, 2, 4, 8);
        doubling(-1074324806, 1, 1 << 28, 1 << 29, 1 << 30, MIN);
        doubling(325750427, 3, 1 << 29, 1 << 30, MIN, 141);
        doubling(411295336, 0, 1 << 30, MIN, 141, 282);
        doubling(260741665, 3, MIN, 141, 282, 564);
        doubling(-1623398311, 7, -1, -141, -405, -933);
        doubling(1485101525, 0, MAX, -2, -143, -401);
        for (int b : new int[] {0, 1, -1, MIN, MAX}) {
            for (int s = 0; s < 8; s++) {
                int t0 = WideMath.e(b, s);
                int t1 = WideMath.doubled(t0);
                int t2 = WideMath.doubled(t1);
                doubling(b, s, t0, t1, t2, WideMath.doubled(t2));
            }
        }
    }

    private static void doubling(int b, int s, int... t) {
        int a = 99;
        RecordedVolume x = RecordedVolume.open(a, b, 3, 4);
        for (int i = 0; i < 4; i++) {
            String place = " at word " + i + " of sector " + s + " with b = " + b;
            due("a word 0" + place, x.peek(48 + 4 * s + i), WideMath.e(a, t[i]) ^ t[i]);
            x.write(s, i, t[i]);
            due("the word t" + place, x.peek(48 + 4 * s + i), WideMath.e(a, 0) ^ t[i]);
            due("read" + place, x.read(s, i), Integer.toUnsignedLong(t[i]));
        }
    }

    private static void theSameWordIsAWriteToo() {
        checks.part("'one write, also when the same word is there already'");
        RecordedVolume x = new RecordedVolume();
        x.format(1, 2, 3, 4);
        x.format(1, 2, 3, 4);
        due("writes() of the same format again", x.writes(), 2 * 81);
        x.unlock(3);
        x.change(0, 3, 4);
        due("writes() of a change to the same slot", x.writes(), 162 + 28);
        checks.disk("the same again", x, Model.volume(1, 2, 3, 4));
        x.write(4, 2, 0);
        due("writes() of a write of the same word", x.writes(), 190 + 16);
        checks.disk("the same again", x, Model.volume(1, 2, 3, 4));
    }

    private static void theNextWriteIsNotDone() {
        checks.part("'when the next one is to be done it is not done'");
        RecordedVolume x = RecordedVolume.open(1, 2, 3, 4);
        x.cut(0);
        due("write with cut(0)", x.write(0, 0, 1), CUT);
        due("writes()", x.writes(), 81);
        checks.disk("a cut before the first write", x, Model.volume(1, 2, 3, 4));
        x.mount();
        x.unlock(3);
        x.cut(1);
        due("write with cut(1)", x.write(0, 0, 1), CUT);
        due("writes()", x.writes(), 82);
        int[] want = Model.volume(1, 2, 3, 4);
        want[38] = Model.kept(1, 2, 0, 0, 1);
        checks.disk("a cut before the second write", x, want);
    }

    private static void theCallEndsAtOnce() {
        checks.part("'the device is OFF then, the call ends at once and answers CUT'");
        atOnce("format", x -> x.format(5, 6, 7, 8), 81);
        atOnce("add", x -> x.add(5, 6), 28);
        atOnce("change", x -> x.change(0, 5, 6), 28);
        atOnce("revoke", x -> x.revoke(1), 20);
        atOnce("write", x -> x.write(0, 0, 5), 16);
    }

    /** A cut before the very last write too, when all that the call is for stands on the disk. */
    private static void atOnce(String name, ToLongFunction<RecordedVolume> call, int writes) {
        RecordedVolume before = RecordedVolume.open(1, 2, 3, 4);
        before.add(30, 40);
        for (int n : new int[] {0, 1, writes - 2, writes - 1}) {
            RecordedVolume x = before.twin();
            x.cut(n);
            due(name + " with cut(" + n + ")", call.applyAsLong(x), CUT);
            due("state()", x.state(), 0);
            due("writes() of " + name, x.writes(), 81 + 28 + n);
            due("lock()", x.lock(), OFF);
            due("unlock(3)", x.unlock(3), OFF);
            due("read(0, 0)", x.read(0, 0), OFF);
        }
    }

    private static void noCutIsSetAnyMore() {
        checks.part("'and no cut is set any more'");
        RecordedVolume x = RecordedVolume.open(1, 2, 3, 4);
        x.cut(2);
        due("write", x.write(0, 0, 1), CUT);
        due("mount()", x.mount(), 1);
        due("unlock(3)", x.unlock(3), 0);
        for (int i = 0; i < 20; i++) {
            due("write after the cut", x.write(0, 0, 1), 0);
        }
        due("format after the cut", x.format(1, 2, 3, 4), 0);
    }

    private static void aCallThatEndsDoesNotNoticeTheCut() {
        checks.part("'A call that comes to its end without that write does not notice the cut'");
        RecordedVolume x = RecordedVolume.open(1, 2, 3, 4);
        x.add(30, 40);
        endsJust("format", x, y -> y.format(1, 2, 3, 4), 81, 0, 1);
        endsJust("add", x, y -> y.add(5, 6), 28, 2, 2);
        endsJust("change", x, y -> y.change(1, 5, 6), 28, 0, 2);
        endsJust("revoke", x, y -> y.revoke(1), 20, 0, 2);
        endsJust("write", x, y -> y.write(0, 0, 5), 16, 0, 2);
        endsJust("mount", x, y -> y.mount(), 0, 2, 1);
        endsJust("lock", x, y -> y.lock(), 0, 1, 1);
        endsJust("unlock", x, y -> y.unlock(30), 0, 1, 2);
        endsJust("read", x, y -> y.read(0, 0), 0, 0, 2);
        endsJust("a refused add", fullVolume(), y -> y.add(5, 6), 0, FULL, 2);
        endsJust("a refused write", x, y -> y.write(8, 0, 5), 0, BAD_ARGUMENT, 2);
        endsJust("a refused revoke", x, y -> y.revoke(2), 0, NO_SLOT, 2);
        endsJust("a wrong unlock", x, y -> y.unlock(4), 0, WRONG, 2);
    }

    private static void endsJust(
            String name, RecordedVolume before, ToLongFunction<RecordedVolume> call,
            int writes, int answer, int state) {
        RecordedVolume x = before.twin();
        int writesBefore = x.writes();
        x.cut(writes);
        due(name + " with cut(" + writes + ")", call.applyAsLong(x), answer);
        due("state() after " + name, x.state(), state);
        due("writes() of " + name, x.writes() - writesBefore, writes);
        due("the write after " + name, x.format(9, 9, 9, 9), CUT);
        due("writes() of it", x.writes() - writesBefore, writes);
    }

    private static void whatIsLeftOfTheCutStaysSet() {
        checks.part("'what is left of it stays set'");
        RecordedVolume x = RecordedVolume.open(1, 2, 3, 4);
        x.cut(16 + 28 + 20 + 5);
        due("write, 16 writes", x.write(0, 0, 1), 0);
        due("add, 28 writes", x.add(5, 6), 1);
        due("lock()", x.lock(), 1);
        due("add, refused", x.add(5, 6), LOCKED);
        due("mount(), no writes", x.mount(), 2);
        due("unlock(5)", x.unlock(5), 1);
        due("revoke, 20 writes", x.revoke(1), 0);
        due("read", x.read(0, 0), 1);
        due("write, the 5 that are left", x.write(0, 0, 2), CUT);
        due("writes()", x.writes(), 81 + 16 + 28 + 20 + 5);
        due("peek(37), the fifth", x.peek(37), 48 + 256 * 4);
        due("peek(36), the sixth", x.peek(36), 0);
    }

    private static void journalOfEightWords() {
        checks.part("CHANGING and FINISHING of eight words, in their order");
        RecordedVolume x = RecordedVolume.open(1, 2, 3, 4);
        for (int k = 1; k < 4; k++) {
            DueWrites due = DueWrites.byJournal(4 + 8 * k, Model.slotFor(5, 6, 1, 2));
            due("writes of an add", due.count(), 28);
            checks.writesInOrder("add", x, y -> y.add(5, 6), due, k, 2);
            x.add(30 + k, 40 + k);
        }
        for (int k = 0; k < 4; k++) {
            int slot = k;
            DueWrites due = DueWrites.byJournal(4 + 8 * k, Model.slotFor(5, 6, 1, 2));
            checks.writesInOrder("change", x, y -> y.change(slot, 5, 6), due, 0, 2);
            DueWrites cleared = DueWrites.byJournal(4 + 8 * k, new int[8]);
            due("writes of a revoke", cleared.count(), 20);
            checks.writesInOrder("revoke", x, y -> y.revoke(slot), cleared, 0, 2);
        }
    }

    private static void journalOfFourWords() {
        checks.part("CHANGING and FINISHING of four words, in their order");
        RecordedVolume x = RecordedVolume.open(1, 2, 3, 4);
        for (int word = 0; word < 32; word++) {
            x.write(word / 4, word % 4, 100 + word);
        }
        for (int s = 0; s < 8; s++) {
            int sector = s;
            int[] words = new int[4];
            for (int i = 0; i < 4; i++) {
                words[i] = Model.kept(1, 2, s, i, i == s % 4 ? -5 : 100 + 4 * s + i);
            }
            DueWrites due = DueWrites.byJournal(48 + 4 * s, words);
            due("writes of a write", due.count(), 16);
            checks.writesInOrder(
                "write", x, y -> y.write(sector, sector % 4, -5), due, 0, 2);
        }
    }

    // The passphrases were found by trying all of them: each makes one word of the MATERIAL 0.
    private static void journalWordsThatAre0AreNotWritten() {
        checks.part("'those of the places 37 .. 45 whose words are not 0 become 0'");
        journalWord0(39, 1, 2, 5, SEED_OF_SALT_0);
        journalWord0(40, 1, 2, -1821723574, 42);
        journalWord0(41, 1, 2, 2018289328, 40);
        journalWord0(42, 1, 2, 1701768386, 48);
        journalWord0(43, 1, 2, -1281254279, 40);
        int salt = Model.h(6, 0);
        int d = Model.h(Model.h(Model.h(6, 1), 1) ^ Model.h(6, 3), 1);
        int e = Model.h(Model.h(Model.h(6, 2), 2) ^ Model.h(6, 4), 2);
        journalWord0(44, d ^ Model.d(Model.slotKey(5, salt, 0), 0), 2, 5, 6);
        journalWord0(45, 1, e ^ Model.d(Model.slotKey(5, salt, 1), 0), 5, 6);
        for (int i = 0; i < 4; i++) {
            sectorWord0(i);
        }
    }

    private static void journalWord0(int place, int a, int b, int passphrase, int seed) {
        RecordedVolume x = RecordedVolume.open(a, b, 3, 4);
        int[] slot = Model.slotFor(passphrase, seed, a, b);
        due("the word for place " + place, slot[place - 38], 0);
        DueWrites due = DueWrites.byJournal(12, slot);
        due("writes with a word 0 at place " + place, due.count(), 27);
        checks.writesInOrder("add", x, y -> y.add(passphrase, seed), due, 1, 2);
        x.add(passphrase, seed);
        due("unlock", x.unlock(passphrase), 1);
    }

    private static void sectorWord0(int i) {
        RecordedVolume x = RecordedVolume.open(1, 2, 3, 4);
        int t = Model.tweak(2, 3, i);
        int v = Model.d(1, t) ^ t;
        int[] words = new int[4];
        for (int j = 0; j < 4; j++) {
            words[j] = j == i ? 0 : Model.kept(1, 2, 3, j, 0);
        }
        DueWrites due = DueWrites.byJournal(60, words);
        due("writes with a word 0 at place " + (38 + i), due.count(), 15);
        checks.writesInOrder("write", x, y -> y.write(3, i, v), due, 0, 2);
    }

    private static void refusedCallsOfAnOffDevice() {
        checks.part("'changes nothing', OFF");
        RecordedVolume journal = RecordedVolume.open(1, 2, 3, 4);
        journal.cut(12);
        journal.add(5, 6);
        for (RecordedVolume before : new RecordedVolume[] {new RecordedVolume(), journal}) {
            for (int n : new int[] {-1, 0, 5}) {
                RecordedVolume x = before.twin();
                x.cut(n);
                checks.refused(x, "unlock", () -> x.unlock(3), OFF);
                checks.refused(x, "lock", () -> x.lock(), OFF);
                refusedUnlessOpen(x, OFF);
            }
        }
    }

    private static void refusedCallsOfALockedDevice() {
        checks.part("'changes nothing', LOCKED");
        for (int n : new int[] {-1, 0, 5}) {
            RecordedVolume x = new RecordedVolume();
            x.format(1, 2, 3, 4);
            x.cut(n);
            checks.refused(x, "unlock", () -> x.unlock(4), WRONG);
            refusedUnlessOpen(x, LOCKED);
            due("unlock(3)", x.unlock(3), 0);
        }
    }

    private static void refusedUnlessOpen(RecordedVolume x, int want) {
        checks.refused(x, "add", () -> x.add(5, 6), want);
        checks.refused(x, "change", () -> x.change(0, 5, 6), want);
        checks.refused(x, "change of no slot", () -> x.change(1, 5, 6), want);
        checks.refused(x, "change(4)", () -> x.change(4, 5, 6), want);
        checks.refused(x, "revoke", () -> x.revoke(0), want);
        checks.refused(x, "revoke of no slot", () -> x.revoke(1), want);
        checks.refused(x, "revoke(-1)", () -> x.revoke(-1), want);
        checks.refused(x, "write", () -> x.write(0, 0, 5), want);
        checks.refused(x, "write(8, 0)", () -> x.write(8, 0, 5), want);
        checks.refused(x, "read", () -> x.read(0, 0), want);
        checks.refused(x, "read(0, 4)", () -> x.read(0, 4), want);
    }

    private static void refusedCallsOfAnOpenDevice() {
        checks.part("'changes nothing', OPEN");
        for (int n : new int[] {-1, 0, 5}) {
            RecordedVolume x = RecordedVolume.open(1, 2, 3, 4);
            x.write(6, 2, 77);
            x.cut(n);
            checks.refused(x, "unlock", () -> x.unlock(4), WRONG);
            checks.refused(x, "change", () -> x.change(3, 5, 6), NO_SLOT);
            checks.refused(x, "change", () -> x.change(4, 5, 6), BAD_ARGUMENT);
            checks.refused(x, "revoke", () -> x.revoke(0), LAST);
            checks.refused(x, "revoke", () -> x.revoke(3), NO_SLOT);
            checks.refused(x, "revoke", () -> x.revoke(-1), BAD_ARGUMENT);
            checks.refused(x, "write", () -> x.write(8, 0, 5), BAD_ARGUMENT);
            checks.refused(x, "write", () -> x.write(0, -1, 5), BAD_ARGUMENT);
            checks.refused(x, "read", () -> x.read(-1, 0), BAD_ARGUMENT);
            checks.refused(x, "read", () -> x.read(0, 4), BAD_ARGUMENT);
            RecordedVolume y = fullVolume();
            y.cut(n);
            checks.refused(y, "add", () -> y.add(5, 6), FULL);
        }
    }

    private static void refusedMount() {
        checks.part("'(but mount, when it answers NO_VOLUME)'");
        RecordedVolume before = RecordedVolume.open(1, 2, 3, 4);
        before.cut(12);
        before.add(5, 6);
        before.cut(20);
        before.format(7, 8, 9, 10);
        due("peek(36), a journal without a MARK", before.peek(36), 1);
        for (int n : new int[] {-1, 0, 5}) {
            RecordedVolume x = before.twin();
            x.cut(n);
            checks.refused(x, "mount", () -> x.mount(), NO_VOLUME);
            due("state()", x.state(), 0);
        }
    }

    private static RecordedVolume fullVolume() {
        RecordedVolume x = RecordedVolume.open(1, 2, 3, 4);
        x.add(31, 41);
        x.add(32, 42);
        x.add(33, 43);
        return x;
    }

    private static void due(String call, long got, long want) {
        checks.due(call, got, want);
    }
}
