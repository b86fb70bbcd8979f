import java.util.Arrays;

/** A part for each sentence of promises 1 to 6 and 12 (the device) that names a boundary. */
public final class DeviceBoundaryTest {
    private static final int CUT = StripedKeyVolume.CUT;
    private static final int OFF = StripedKeyVolume.OFF;
    private static final int NO_VOLUME = StripedKeyVolume.NO_VOLUME;
    private static final int LOCKED = StripedKeyVolume.LOCKED;
    private static final int WRONG = StripedKeyVolume.WRONG;

    private static final int MIN = Integer.MIN_VALUE;
    private static final int MAX = Integer.MAX_VALUE;

    private static final Checks checks = new Checks("DeviceBoundaryTest");

    public static void main(String[] args) {
        newDisk();
        newDevice();
        newObjectHasNoCut();
        newObjectsShareNothing();
        cutBelowMinus1();
        cutOfMinus1();
        cutOf0();
        cutOfTheGreatestNumber();
        cutWhateverWasSetBefore();
        cutFromNowOn();
        cutWhateverTheDeviceIs();
        formatWhateverTheDeviceIs();
        formatWhateverIsOnTheDisk();
        formatWritesInOrder();
        formatAtTheEdgesOfInt();
        formatJustCut();
        mountWhateverTheDeviceIs();
        mountOfANewDisk();
        mountOfHalfAVolume();
        mountFinishesTheJournal();
        mountClearsTheJournal();
        mountCountsWhatIsActiveThen();
        mountCountsUpToFour();
        mountAgainAfterACut();
        unlockInTheOrderOfTheSlots();
        unlockOfTheLastSlot();
        unlockWhenOpen();
        unlockWhenOff();
        unlockWhenNoneSucceeds();
        unlockAtTheEdgesOfInt();
        lockWhenOpenLockedOrOff();
        stateOfEveryDevice();
        checks.end();
    }

    // Promise 1

    private static void newDisk() {
        checks.part("1: 'A disk of zeros'");
        checks.disk("a new object", new RecordedVolume(), new int[80]);
        due("slots()", new RecordedVolume().slots(), 0);
    }

    private static void newDevice() {
        checks.part("1: 'the device is OFF', 'no writes were done'");
        RecordedVolume x = new RecordedVolume();
        due("state()", x.state(), 0);
        due("lock()", x.lock(), OFF);
        due("unlock(0)", x.unlock(0), OFF);
        due("writes()", x.writes(), 0);
    }

    private static void newObjectHasNoCut() {
        checks.part("1: 'no cut is set'");
        RecordedVolume x = new RecordedVolume();
        for (int made = 1; made <= 511; made++) {
            due("format number " + made, x.format(1, 2, 3, 4), 0);
        }
        due("writes()", x.writes(), 81 * 511);
    }

    private static void newObjectsShareNothing() {
        checks.part("1: one object beside another");
        StripedKeyVolume x = new StripedKeyVolume();
        StripedKeyVolume y = new StripedKeyVolume();
        x.cut(5);
        due("format of the other", y.format(1, 2, 3, 4), 0);
        due("peek(1) of the first", x.peek(1), 0);
        due("writes() of the first", x.writes(), 0);
        due("state() of the first", x.state(), 0);
        due("a third", new StripedKeyVolume().peek(4), 0);
    }

    // Promise 2

    private static void cutBelowMinus1() {
        checks.part("2: 'false, changing nothing, when n is below -1'");
        for (int set : new int[] {-1, 0, 3, 100}) {
            for (int n : new int[] {-2, -3, -65536, MIN + 1, MIN}) {
                RecordedVolume x = new RecordedVolume();
                x.cut(set);
                checks.refused(x, "cut(" + n + ")", () -> x.cut(n) ? 1 : 0, 0);
            }
        }
    }

    private static void cutOfMinus1() {
        checks.part("2: 'n = -1: no cut is set'");
        for (int set : new int[] {-1, 0, 3, 80}) {
            RecordedVolume x = new RecordedVolume();
            x.cut(set);
            checks.due("cut(-1)", x.cut(-1), true);
            due("format", x.format(1, 2, 3, 4), 0);
            due("format", x.format(1, 2, 3, 4), 0);
        }
    }

    private static void cutOf0() {
        checks.part("2: 'Sets the cut at n writes from now on', n = 0");
        RecordedVolume x = new RecordedVolume();
        checks.due("cut(0)", x.cut(0), true);
        due("format", x.format(1, 2, 3, 4), CUT);
        due("writes()", x.writes(), 0);
        due("format", x.format(1, 2, 3, 4), 0);
    }

    private static void cutOfTheGreatestNumber() {
        checks.part("2: 'Sets the cut at n writes from now on', n = 2^31 - 1");
        RecordedVolume x = new RecordedVolume();
        checks.due("cut(MAX)", x.cut(MAX), true);
        for (int made = 1; made <= 100; made++) {
            due("format number " + made, x.format(1, 2, 3, 4), 0);
        }
        checks.due("cut(MAX) again", x.cut(MAX), true);
        due("format", x.format(1, 2, 3, 4), 0);
    }

    private static void cutWhateverWasSetBefore() {
        checks.part("2: 'whatever was set before'");
        for (int before : new int[] {-1, 0, 1, 50, MAX}) {
            for (int n : new int[] {0, 1, 49, 80}) {
                RecordedVolume x = new RecordedVolume();
                x.cut(before);
                checks.due("cut(" + n + ")", x.cut(n), true);
                due("format", x.format(1, 2, 3, 4), CUT);
                due("writes()", x.writes(), n);
                due("format", x.format(1, 2, 3, 4), 0);
            }
        }
    }

    private static void cutFromNowOn() {
        checks.part("2: 'from now on'");
        RecordedVolume x = new RecordedVolume();
        x.cut(100);
        due("format", x.format(1, 2, 3, 4), 0);
        x.cut(30);
        due("format", x.format(1, 2, 3, 4), CUT);
        due("writes()", x.writes(), 81 + 30);
        x.cut(81);
        due("format", x.format(1, 2, 3, 4), 0);
        x.cut(81);
        due("format", x.format(1, 2, 3, 4), 0);
        due("writes()", x.writes(), 81 + 30 + 81 + 81);
    }

    private static void cutWhateverTheDeviceIs() {
        checks.part("2: 'Answers true', OFF, LOCKED and OPEN");
        RecordedVolume x = new RecordedVolume();
        checks.due("cut(1) when OFF", x.cut(1), true);
        checks.due("cut(-1) when OFF", x.cut(-1), true);
        x.format(1, 2, 3, 4);
        checks.due("cut(1) when LOCKED", x.cut(1), true);
        due("state()", x.state(), 1);
        x.unlock(3);
        checks.due("cut(1) when OPEN", x.cut(1), true);
        checks.due("cut(0) when OPEN", x.cut(0), true);
        due("state()", x.state(), 2);
        checks.disk("cut", x, Model.volume(1, 2, 3, 4));
    }

    // Promise 3

    private static void formatWhateverTheDeviceIs() {
        checks.part("3: 'whatever the device is'");
        RecordedVolume x = new RecordedVolume();
        due("format when OFF", x.format(1, 2, 3, 4), 0);
        due("state()", x.state(), 1);
        due("format when LOCKED", x.format(5, 6, 7, 8), 0);
        due("state()", x.state(), 1);
        due("unlock(3)", x.unlock(3), WRONG);
        due("unlock(7)", x.unlock(7), 0);
        due("format when OPEN", x.format(9, 10, 11, 12), 0);
        due("'Then the device is LOCKED'", x.state(), 1);
        due("read(0, 0)", x.read(0, 0), LOCKED);
        due("writes()", x.writes(), 3 * 81);
        checks.disk("format", x, Model.volume(9, 10, 11, 12));
    }

    private static void formatWhateverIsOnTheDisk() {
        checks.part("3: 'whatever is on the disk'");
        RecordedVolume full = RecordedVolume.open(1, 2, 3, 4);
        for (int k = 1; k < 4; k++) {
            full.add(k, k);
        }
        for (int word = 0; word < 32; word++) {
            full.write(word / 4, word % 4, -1);
        }
        formats("a full volume", full);
        RecordedVolume half = full.twin();
        half.cut(40);
        half.format(-1, -1, -1, -1);
        formats("half a volume", half);
        RecordedVolume journal = full.twin();
        journal.cut(14);
        journal.change(3, -1, -1);
        due("peek(36)", journal.peek(36), 1);
        formats("a journal to be FINISHED", journal);
        RecordedVolume rest = full.twin();
        rest.cut(5);
        rest.change(3, -1, -1);
        formats("a journal to be cleared", rest);
        formats("zeros", new RecordedVolume());
    }

    private static void formats(String what, RecordedVolume over) {
        RecordedVolume x = over.twin();
        int before = x.writes();
        due("format over " + what, x.format(5, 6, 7, 8), 0);
        due("writes of a format over " + what, x.writes() - before, 81);
        checks.disk("format over " + what, x, Model.volume(5, 6, 7, 8));
        due("mount()", x.mount(), 1);
        due("writes of a mount after it", x.writes() - before, 81);
        due("unlock(7)", x.unlock(7), 0);
        due("read(7, 3)", x.read(7, 3), 0);
    }

    private static void formatWritesInOrder() {
        checks.part("3: 'place 0 becomes 0; then places 1 .. 79, in their order', '81 writes'");
        DueWrites due = DueWrites.ofFormat(Model.volume(5, 6, 7, 8));
        due("writes of a format", due.count(), 81);
        checks.writesInOrder(
            "format", new RecordedVolume(), x -> x.format(5, 6, 7, 8), due, 0, 1);
        checks.writesInOrder(
            "format", RecordedVolume.open(1, 2, 3, 4), x -> x.format(5, 6, 7, 8), due, 0, 1);
    }

    private static void formatAtTheEdgesOfInt() {
        checks.part("3: 'with the master keys a and b', 'FOR the passphrase with the seed'");
        int[] edges = {MIN, -1, 0, 1, MAX};
        for (int a : edges) {
            for (int b : edges) {
                for (int p : edges) {
                    int g = a ^ b ^ p;
                    RecordedVolume x = new RecordedVolume();
                    due("format", x.format(a, b, p, g), 0);
                    checks.disk("format of edges", x, Model.volume(a, b, p, g));
                    due("unlock", x.unlock(p), 0);
                    due("unlock of another", x.unlock(p + 2), WRONG);
                }
            }
        }
    }

    private static void formatJustCut() {
        checks.part("3: 'then place 0 gets the MARK', 'Answers 0, or CUT'");
        RecordedVolume x = new RecordedVolume();
        x.cut(80);
        due("format with cut(80)", x.format(1, 2, 3, 4), CUT);
        due("state()", x.state(), 0);
        due("peek(0)", x.peek(0), 0);
        due("peek(79)", x.peek(79), Model.volume(1, 2, 3, 4)[79]);
        due("mount()", x.mount(), NO_VOLUME);
        x.cut(81);
        due("format with cut(81)", x.format(1, 2, 3, 4), 0);
        due("state()", x.state(), 1);
        due("peek(0)", x.peek(0), 1396855379);
        due("mount()", x.mount(), 1);
    }

    // Promise 4

    private static void mountWhateverTheDeviceIs() {
        checks.part("4: 'Starts the device, whatever it is'");
        RecordedVolume x = RecordedVolume.open(1, 2, 3, 4);
        due("mount() when OPEN", x.mount(), 1);
        due("state()", x.state(), 1);
        due("read(0, 0)", x.read(0, 0), LOCKED);
        due("mount() when LOCKED", x.mount(), 1);
        due("state()", x.state(), 1);
        x.cut(0);
        x.format(5, 6, 7, 8);
        due("state()", x.state(), 0);
        due("mount() when OFF", x.mount(), 1);
        due("state()", x.state(), 1);
        due("lock()", x.lock(), 0);
        due("writes() of three mounts of a journal of 0", x.writes(), 81);
    }

    private static void mountOfANewDisk() {
        checks.part("4: 'when word 0 is not the MARK, it is OFF', a disk of zeros");
        RecordedVolume x = new RecordedVolume();
        checks.refused(x, "mount()", () -> x.mount(), NO_VOLUME);
        due("state()", x.state(), 0);
        due("writes()", x.writes(), 0);
    }

    private static void mountOfHalfAVolume() {
        checks.part("4: 'when word 0 is not the MARK, it is OFF', half a volume");
        for (int n = 0; n <= 80; n++) {
            RecordedVolume x = RecordedVolume.open(1, 2, 3, 4);
            x.cut(10);
            x.add(5, 6);
            x.cut(n);
            due("format cut at " + n, x.format(7, 8, 9, 10), CUT);
            if (n == 0) {
                due("mount(): the MARK is there still", x.mount(), 2);
            } else {
                checks.refused(x, "mount() after " + n, () -> x.mount(), NO_VOLUME);
                due("state()", x.state(), 0);
            }
        }
    }

    private static void mountFinishesTheJournal() {
        checks.part("4: 'the journal is FINISHED when place 36 is 1'");
        int[] slot = Model.slotFor(5, 6, 1, 2);
        DueWrites due = DueWrites.none().finishing(12, slot);
        due("writes of FINISHING", due.count(), 18);
        for (int n = 10; n < 19; n++) {
            RecordedVolume x = RecordedVolume.open(1, 2, 3, 4);
            x.cut(n);
            due("add cut at " + n, x.add(5, 6), CUT);
            due("peek(36)", x.peek(36), 1);
            checks.writesInOrder("mount() after " + n, x, y -> y.mount(), due, 2, 1);
        }
        finishesAChangeOfTheLastPlaces();
    }

    private static void finishesAChangeOfTheLastPlaces() {
        int[] words = new int[4];
        for (int i = 0; i < 4; i++) {
            words[i] = Model.kept(1, 2, 7, i, i == 3 ? -1 : 0);
        }
        DueWrites due = DueWrites.none().finishing(76, words);
        for (int n = 6; n < 11; n++) {
            RecordedVolume x = RecordedVolume.open(1, 2, 3, 4);
            x.cut(n);
            due("write cut at " + n, x.write(7, 3, -1), CUT);
            checks.writesInOrder("mount() after " + n, x, y -> y.mount(), due, 1, 1);
        }
    }

    private static void mountClearsTheJournal() {
        checks.part("4: 'when it is not, those of the places 37 .. 45 whose words are not 0'");
        int[] slot = Model.slotFor(5, 6, 1, 2);
        for (int n = 0; n < 10; n++) {
            DueWrites due = n == 9 ? DueWrites.none().put(37, 0) : DueWrites.none();
            due.clearing(Arrays.copyOf(slot, Math.min(n, 8)));
            clears(n, due, 1);
        }
        for (int n = 19; n < 28; n++) {
            DueWrites due = n == 19 ? DueWrites.none().put(37, 0) : DueWrites.none();
            for (int place = Math.max(38, 18 + n); place <= 45; place++) {
                due.put(place, 0);
            }
            clears(n, due, 2);
        }
    }

    private static void clears(int n, DueWrites due, int active) {
        RecordedVolume x = RecordedVolume.open(1, 2, 3, 4);
        x.cut(n);
        due("add cut at " + n, x.add(5, 6), CUT);
        due("peek(36)", x.peek(36), 0);
        checks.writesInOrder("mount() after " + n, x, y -> y.mount(), due, active, 1);
    }

    private static void mountCountsWhatIsActiveThen() {
        checks.part("4: 'the number of slots that are ACTIVE then'");
        for (int n : new int[] {9, 10, 11, 18, 19}) {
            RecordedVolume x = RecordedVolume.open(1, 2, 3, 4);
            x.cut(n);
            x.add(5, 6);
            due("slots() before, add cut at " + n, x.slots(), n < 11 ? 1 : 3);
            due("mount() of an add cut at " + n, x.mount(), n < 10 ? 1 : 2);
            x.unlock(3);
            x.add(7, 8);
            int active = x.mount();
            x.unlock(3);
            x.cut(n);
            due("revoke", x.revoke(1), CUT);
            due("mount() of a revoke cut at " + n, x.mount(), n < 10 ? active : active - 1);
        }
    }

    private static void mountCountsUpToFour() {
        checks.part("4: 'Answers the number of slots', 1 to 4");
        RecordedVolume x = RecordedVolume.open(1, 2, 3, 4);
        for (int k = 1; k < 4; k++) {
            due("mount()", x.mount(), k);
            x.unlock(3);
            x.add(10 + k, k);
        }
        due("mount()", x.mount(), 4);
        x.unlock(13);
        for (int k = 0; k < 3; k++) {
            x.revoke(k);
            due("mount() without " + k, x.mount(), 3 - k);
            x.unlock(13);
        }
    }

    private static void mountAgainAfterACut() {
        checks.part("4: 'or CUT'");
        int[] want = Model.volume(1, 2, 3, 4);
        System.arraycopy(Model.slotFor(5, 6, 1, 2), 0, want, 12, 8);
        RecordedVolume x = RecordedVolume.open(1, 2, 3, 4);
        x.cut(10);
        x.add(5, 6);
        // With cut(9) place 36 becomes 0, and nine places are left to clear: cut(10) is enough.
        for (int n = 0; n < 18; n++) {
            x.cut(n);
            due("mount() with cut(" + n + ")", x.mount(), n < 10 ? CUT : 2);
            due("state()", x.state(), n < 10 ? 0 : 1);
        }
        checks.disk("mount() cut again and again", x, want);
    }

    // Promise 5

    private static void unlockInTheOrderOfTheSlots() {
        checks.part("5: 'in their order, until one SUCCEEDS'");
        RecordedVolume x = RecordedVolume.open(1, 2, 3, 4);
        x.add(3, 40);
        x.add(3, 40);
        x.add(3, 60);
        for (int k = 0; k < 3; k++) {
            due("unlock(3), the least of the slots", x.unlock(3), k);
            x.revoke(k);
        }
        due("unlock(3), the last of the slots", x.unlock(3), 3);
        theFirstThatSucceedsIsTaken();
    }

    private static void theFirstThatSucceedsIsTaken() {
        RecordedVolume x = RecordedVolume.open(11, 22, 333, 5);
        due("add", x.add(ChanceKeys.PASSPHRASE, 9), 1);
        due("unlock, slot 0 by chance before slot 1", x.unlock(ChanceKeys.PASSPHRASE), 0);
        due("write", x.write(0, 0, 9), 0);
        due("peek(48)", x.peek(48), Model.kept(ChanceKeys.A, ChanceKeys.B, 0, 0, 9));
        due("change(0)", x.change(0, 8, 9), 0);
        due("unlock, slot 1 for it", x.unlock(ChanceKeys.PASSPHRASE), 1);
        due("write", x.write(1, 0, 9), 0);
        due("peek(52)", x.peek(52), Model.kept(11, 22, 1, 0, 9));
    }

    private static void unlockOfTheLastSlot() {
        checks.part("5: 'answers the slot's number', 0 and 3");
        RecordedVolume x = RecordedVolume.open(1, 2, 3, 4);
        x.add(31, 41);
        x.add(32, 42);
        x.add(33, 43);
        x.lock();
        due("unlock(33)", x.unlock(33), 3);
        due("unlock(3)", x.unlock(3), 0);
        x.revoke(0);
        x.revoke(1);
        x.revoke(2);
        x.lock();
        due("unlock(33), slot 3 alone", x.unlock(33), 3);
        due("state()", x.state(), 2);
        due("unlock(3), revoked", x.unlock(3), WRONG);
        due("read(0, 0)", x.read(0, 0), 0);
    }

    private static void unlockWhenOpen() {
        checks.part("5: '(also when it was OPEN before)'");
        RecordedVolume x = RecordedVolume.open(11, 22, 333, 5);
        due("unlock with other words when OPEN", x.unlock(ChanceKeys.PASSPHRASE), 0);
        due("state()", x.state(), 2);
        due("write with the other keys", x.write(0, 0, 9), 0);
        due("peek(48)", x.peek(48), Model.kept(ChanceKeys.A, ChanceKeys.B, 0, 0, 9));
        due("unlock(333) when OPEN", x.unlock(333), 0);
        due("write with the first keys", x.write(1, 0, 9), 0);
        due("peek(52)", x.peek(52), Model.kept(11, 22, 1, 0, 9));
        due("writes()", x.writes(), 81 + 32);
    }

    private static void unlockWhenOff() {
        checks.part("5: 'OFF when it is OFF'");
        RecordedVolume x = new RecordedVolume();
        checks.refused(x, "unlock of a new object", () -> x.unlock(3), OFF);
        x.format(1, 2, 3, 4);
        x.unlock(3);
        x.cut(0);
        x.write(0, 0, 0);
        checks.refused(x, "unlock with the right passphrase", () -> x.unlock(3), OFF);
        checks.refused(x, "unlock with a wrong one", () -> x.unlock(4), OFF);
        x.mount();
        due("unlock(3)", x.unlock(3), 0);
    }

    private static void unlockWhenNoneSucceeds() {
        checks.part("5: 'WRONG when none succeeds (an OPEN device stays OPEN as it was)'");
        RecordedVolume x = new RecordedVolume();
        x.format(11, 22, 333, 5);
        checks.refused(x, "unlock(332) when LOCKED", () -> x.unlock(332), WRONG);
        due("state()", x.state(), 1);
        due("unlock(333)", x.unlock(333), 0);
        checks.refused(x, "unlock(334) when OPEN", () -> x.unlock(334), WRONG);
        due("state()", x.state(), 2);
        due("unlock of other words", x.unlock(ChanceKeys.PASSPHRASE), 0);
        checks.refused(x, "unlock(334) when OPEN with them", () -> x.unlock(334), WRONG);
        due("write", x.write(0, 0, 9), 0);
        due("peek(48)", x.peek(48), Model.kept(ChanceKeys.A, ChanceKeys.B, 0, 0, 9));
    }

    private static void unlockAtTheEdgesOfInt() {
        checks.part("5: 'A passphrase is an int p'");
        int[] edges = {MIN, MIN + 1, -1, 0, 1, MAX - 1, MAX};
        for (int p : edges) {
            RecordedVolume x = new RecordedVolume();
            x.format(1, 2, p, 4);
            for (int tried : edges) {
                due("unlock(" + tried + ") for " + p, x.unlock(tried), tried == p ? 0 : WRONG);
            }
        }
    }

    // Promise 6

    private static void lockWhenOpenLockedOrOff() {
        checks.part("6: '1 when it was OPEN, 0 when it was LOCKED; OFF when it is OFF'");
        RecordedVolume x = new RecordedVolume();
        checks.refused(x, "lock() when OFF", () -> x.lock(), OFF);
        due("state()", x.state(), 0);
        x.format(1, 2, 3, 4);
        due("lock() when LOCKED", x.lock(), 0);
        due("state()", x.state(), 1);
        x.unlock(3);
        due("lock() when OPEN", x.lock(), 1);
        due("state()", x.state(), 1);
        due("lock() again", x.lock(), 0);
        due("read(0, 0)", x.read(0, 0), LOCKED);
        x.unlock(3);
        x.cut(0);
        due("lock() needs no write", x.lock(), 1);
        due("format", x.format(5, 6, 7, 8), CUT);
        checks.refused(x, "lock() after a cut", () -> x.lock(), OFF);
        checks.disk("lock()", x, Model.volume(1, 2, 3, 4));
    }

    // Promise 12

    private static void stateOfEveryDevice() {
        checks.part("12: '0 OFF, 1 LOCKED, 2 OPEN'");
        RecordedVolume x = new RecordedVolume();
        checks.refused(x, "state() of a new object", () -> x.state(), 0);
        x.format(1, 2, 3, 4);
        checks.refused(x, "state() after format", () -> x.state(), 1);
        x.unlock(3);
        checks.refused(x, "state() after unlock", () -> x.state(), 2);
        x.unlock(4);
        due("state() after a wrong unlock", x.state(), 2);
        x.cut(0);
        due("state() with a cut that is not noticed", x.state(), 2);
        x.lock();
        due("state() after lock", x.state(), 1);
        x.unlock(3);
        x.mount();
        due("state() after mount", x.state(), 1);
        x.format(1, 2, 3, 4);
        due("state() after a cut", x.state(), 0);
        x.unlock(3);
        due("state() after an unlock that is refused", x.state(), 0);
        x.mount();
        due("state() after mount", x.state(), 1);
    }

    private static void due(String call, long got, long want) {
        checks.due(call, got, want);
    }
}
