import java.util.Arrays;

/** A part for each sentence of promises 7 to 9 and 13 (the slots) that names a boundary. */
public final class SlotBoundaryTest {
    private static final int CUT = StripedKeyVolume.CUT;
    private static final int OFF = StripedKeyVolume.OFF;
    private static final int LOCKED = StripedKeyVolume.LOCKED;
    private static final int BAD_ARGUMENT = StripedKeyVolume.BAD_ARGUMENT;
    private static final int NO_SLOT = StripedKeyVolume.NO_SLOT;
    private static final int FULL = StripedKeyVolume.FULL;
    private static final int LAST = StripedKeyVolume.LAST;
    private static final int WRONG = StripedKeyVolume.WRONG;

    private static final int MIN = Integer.MIN_VALUE;
    private static final int MAX = Integer.MAX_VALUE;
    // 8 k wraps around to a slot's place for the numbers near 2^29, 2^30 and 2^31.
    private static final int[] NO_NUMBERS = {
        -1, 4, 5, -4, 8, 1 << 29, (1 << 29) + 3, 1 << 30, -(1 << 29), MIN, MIN + 1, MAX};

    private static final Checks checks = new Checks("SlotBoundaryTest");

    public static void main(String[] args) {
        addTakesTheLeastSlot();
        addWhenAllAreActive();
        addOffBeforeLockedBeforeFull();
        addWithTheKeysHeld();
        addAtTheEdgesOfInt();
        addJustCut();
        changeOfAnySlot();
        changeOfNoNumber();
        changeOfASlotThatIsNotActive();
        changeOffBeforeLockedBeforeTheNumber();
        changeWithTheKeysHeld();
        changeAtTheEdgesOfInt();
        changeOfTheOnlySlot();
        changeJustCut();
        revokeOfAnySlot();
        revokeLeavesAnOpenDeviceOpen();
        revokeOfNoNumber();
        revokeOfASlotThatIsNotActive();
        revokeOffBeforeLockedBeforeTheNumber();
        revokeOfTheLastSlot();
        revokeJustCut();
        slotsOfEachSum();
        slotsWhenOff();
        checks.end();
    }

    // Promise 7

    private static void addTakesTheLeastSlot() {
        checks.part("7: 'The least slot that is not ACTIVE'");
        for (int free = 1; free < 15; free++) {
            RecordedVolume x = fullVolume();
            for (int k = 0; k < 4; k++) {
                if ((free >> k & 1) == 1) {
                    x.revoke(k);
                }
            }
            int least = Integer.numberOfTrailingZeros(free);
            int[] want = x.words();
            System.arraycopy(Model.slotFor(5, 6, 1, 2), 0, want, 4 + 8 * least, 8);
            due("add with the slots " + free + " free", x.add(5, 6), least);
            checks.disk("add with the slots " + free + " free", x, want);
            due("state()", x.state(), 2);
        }
    }

    private static void addWhenAllAreActive() {
        checks.part("7: 'FULL when all slots are ACTIVE'");
        RecordedVolume x = RecordedVolume.open(1, 2, 3, 4);
        for (int k = 1; k < 4; k++) {
            due("add", x.add(k, k), k);
        }
        checks.refused(x, "add, all slots ACTIVE", () -> x.add(9, 9), FULL);
        due("unlock(9)", x.unlock(9), WRONG);
        x.revoke(3);
        due("add, one slot free again", x.add(9, 9), 3);
        checks.refused(x, "add, all slots ACTIVE", () -> x.add(9, 9), FULL);
    }

    private static void addOffBeforeLockedBeforeFull() {
        checks.part("7: 'OFF when the device is OFF; otherwise LOCKED; otherwise FULL'");
        RecordedVolume x = new RecordedVolume();
        checks.refused(x, "add on a new object", () -> x.add(9, 9), OFF);
        x.format(1, 2, 3, 4);
        checks.refused(x, "add when LOCKED", () -> x.add(9, 9), LOCKED);
        RecordedVolume y = fullVolume();
        y.lock();
        checks.refused(y, "add when LOCKED and FULL", () -> y.add(9, 9), LOCKED);
        y.cut(0);
        y.format(1, 2, 3, 4);
        checks.refused(y, "add when OFF and FULL", () -> y.add(9, 9), OFF);
    }

    private static void addWithTheKeysHeld() {
        checks.part("7: 'the master keys that the device holds'");
        RecordedVolume x = new RecordedVolume();
        x.format(11, 22, 333, 5);
        x.unlock(ChanceKeys.PASSPHRASE);
        due("add", x.add(7, 8), 1);
        checks.words("add", x, 12, Model.slotFor(7, 8, ChanceKeys.A, ChanceKeys.B));
        x.unlock(333);
        due("add", x.add(9, 10), 2);
        checks.words("add", x, 20, Model.slotFor(9, 10, 11, 22));
    }

    private static void addAtTheEdgesOfInt() {
        checks.part("7: 'one FOR the passphrase with the seed'");
        int[] edges = {MIN, -1, 0, 1, MAX};
        for (int p : edges) {
            for (int g : edges) {
                RecordedVolume x = RecordedVolume.open(MIN, MAX, 3, 4);
                due("add", x.add(p, g), 1);
                checks.words("add", x, 12, Model.slotFor(p, g, MIN, MAX));
                due("unlock", x.unlock(p), 1);
            }
        }
        RecordedVolume x = RecordedVolume.open(1, 2, 3, 4);
        due("add of what slot 0 is for", x.add(3, 4), 1);
        checks.words("add", x, 12, Model.slotFor(3, 4, 1, 2));
    }

    private static void addJustCut() {
        checks.part("7: 'Answers the slot's number, or CUT'");
        for (int k = 1; k < 4; k++) {
            RecordedVolume x = RecordedVolume.open(1, 2, 3, 4);
            for (int made = 1; made < k; made++) {
                x.add(made, made);
            }
            RecordedVolume y = x.twin();
            x.cut(27);
            due("add with cut(27)", x.add(5, 6), CUT);
            due("state()", x.state(), 0);
            due("mount(): the slot is there", x.mount(), k + 1);
            y.cut(28);
            due("add with cut(28)", y.add(5, 6), k);
            due("state()", y.state(), 2);
        }
    }

    // Promise 8

    private static void changeOfAnySlot() {
        checks.part("8: 'Slot k becomes', k from 0 to 3");
        for (int k = 0; k < 4; k++) {
            RecordedVolume x = fullVolume();
            int[] want = x.words();
            System.arraycopy(Model.slotFor(5, 6, 1, 2), 0, want, 4 + 8 * k, 8);
            due("change(" + k + ")", x.change(k, 5, 6), 0);
            checks.disk("change(" + k + ")", x, want);
            due("state()", x.state(), 2);
            due("slots()", x.slots(), 15);
            due("unlock of the old passphrase", x.unlock(k == 0 ? 3 : 30 + k), WRONG);
            due("unlock(5)", x.unlock(5), k);
        }
    }

    private static void changeOfNoNumber() {
        checks.part("8: 'BAD_ARGUMENT when k is not 0 .. 3'");
        RecordedVolume one = RecordedVolume.open(1, 2, 3, 4);
        for (RecordedVolume before : new RecordedVolume[] {one, fullVolume()}) {
            for (int k : NO_NUMBERS) {
                RecordedVolume x = before.twin();
                checks.refused(x, "change(" + k + ")", () -> x.change(k, 5, 6), BAD_ARGUMENT);
            }
        }
    }

    private static void changeOfASlotThatIsNotActive() {
        checks.part("8: 'otherwise NO_SLOT when slot k is not ACTIVE'");
        for (int k = 0; k < 4; k++) {
            int slot = k;
            RecordedVolume x = fullVolume();
            x.revoke(k);
            checks.refused(x, "change(" + k + ")", () -> x.change(slot, 5, 6), NO_SLOT);
            due("add", x.add(5, 6), k);
            due("change(" + k + ") of a slot added again", x.change(k, 7, 8), 0);
        }
        RecordedVolume x = RecordedVolume.open(1, 2, 3, 4);
        for (int k = 1; k < 4; k++) {
            int slot = k;
            checks.refused(x, "change(" + k + ")", () -> x.change(slot, 5, 6), NO_SLOT);
        }
    }

    private static void changeOffBeforeLockedBeforeTheNumber() {
        checks.part("8: 'OFF, LOCKED as with add; otherwise BAD_ARGUMENT'");
        RecordedVolume x = new RecordedVolume();
        for (int k = -1; k <= 4; k++) {
            int slot = k;
            checks.refused(x, "change(" + k + ") when OFF", () -> x.change(slot, 5, 6), OFF);
        }
        x.format(1, 2, 3, 4);
        for (int k = -1; k <= 4; k++) {
            int slot = k;
            checks.refused(x, "change(" + k + ") when LOCKED", () -> x.change(slot, 5, 6), LOCKED);
        }
    }

    private static void changeWithTheKeysHeld() {
        checks.part("8: 'the master keys that the device holds'");
        RecordedVolume x = new RecordedVolume();
        x.format(11, 22, 333, 5);
        x.unlock(333);
        x.add(7, 8);
        x.unlock(ChanceKeys.PASSPHRASE);
        due("change(1)", x.change(1, 9, 10), 0);
        checks.words("change", x, 12, Model.slotFor(9, 10, ChanceKeys.A, ChanceKeys.B));
        due("change(0)", x.change(0, 9, 10), 0);
        checks.words("change", x, 4, Model.slotFor(9, 10, ChanceKeys.A, ChanceKeys.B));
        due("state()", x.state(), 2);
        due("write", x.write(0, 0, 5), 0);
        due("peek(48)", x.peek(48), Model.kept(ChanceKeys.A, ChanceKeys.B, 0, 0, 5));
    }

    private static void changeAtTheEdgesOfInt() {
        checks.part("8: 'one FOR the passphrase with the seed'");
        int[] edges = {MIN, -1, 0, 1, MAX};
        RecordedVolume x = RecordedVolume.open(MAX, MIN, 3, 4);
        for (int p : edges) {
            for (int g : edges) {
                due("change", x.change(0, p, g), 0);
                checks.words("change", x, 4, Model.slotFor(p, g, MAX, MIN));
                due("unlock", x.unlock(p), 0);
            }
        }
    }

    private static void changeOfTheOnlySlot() {
        checks.part("8: a change of the only slot");
        RecordedVolume x = RecordedVolume.open(1, 2, 3, 4);
        due("change(0)", x.change(0, 5, 6), 0);
        due("slots()", x.slots(), 1);
        due("unlock(3)", x.unlock(3), WRONG);
        due("state()", x.state(), 2);
        due("unlock(5)", x.unlock(5), 0);
    }

    private static void changeJustCut() {
        checks.part("8: 'Answers 0, or CUT'");
        RecordedVolume x = RecordedVolume.open(1, 2, 3, 4);
        RecordedVolume y = x.twin();
        x.cut(27);
        due("change with cut(27)", x.change(0, 5, 6), CUT);
        due("state()", x.state(), 0);
        due("mount()", x.mount(), 1);
        due("unlock(5): the slot is there", x.unlock(5), 0);
        y.cut(28);
        due("change with cut(28)", y.change(0, 5, 6), 0);
        due("state()", y.state(), 2);
    }

    // Promise 9

    private static void revokeOfAnySlot() {
        checks.part("9: 'The eight words of slot k become 0', k from 0 to 3");
        for (int k = 0; k < 4; k++) {
            RecordedVolume x = fullVolume();
            int[] want = x.words();
            Arrays.fill(want, 4 + 8 * k, 12 + 8 * k, 0);
            int before = x.writes();
            due("revoke(" + k + ")", x.revoke(k), 0);
            checks.disk("revoke(" + k + ")", x, want);
            due("writes of a revoke", x.writes() - before, 20);
            due("unlock of the passphrase", x.unlock(k == 0 ? 3 : 30 + k), WRONG);
        }
    }

    private static void revokeLeavesAnOpenDeviceOpen() {
        checks.part("9: '(an OPEN device stays OPEN)'");
        RecordedVolume x = RecordedVolume.open(11, 22, 333, 5);
        x.write(2, 2, 7);
        x.add(7, 8);
        due("unlock of slot 0", x.unlock(333), 0);
        due("revoke of the slot that opened the device", x.revoke(0), 0);
        due("state()", x.state(), 2);
        due("read(2, 2)", x.read(2, 2), 7);
        due("write(2, 3)", x.write(2, 3, 9), 0);
        due("add", x.add(333, 5), 0);
        checks.words("add", x, 4, Model.slotFor(333, 5, 11, 22));
        due("unlock with other words", x.unlock(ChanceKeys.PASSPHRASE), 0);
        due("revoke of another slot", x.revoke(1), 0);
        due("write(0, 0)", x.write(0, 0, 5), 0);
        due("peek(48)", x.peek(48), Model.kept(ChanceKeys.A, ChanceKeys.B, 0, 0, 5));
    }

    private static void revokeOfNoNumber() {
        checks.part("9: 'BAD_ARGUMENT as with change', before NO_SLOT and LAST");
        RecordedVolume one = RecordedVolume.open(1, 2, 3, 4);
        for (RecordedVolume before : new RecordedVolume[] {one, fullVolume()}) {
            for (int k : NO_NUMBERS) {
                RecordedVolume x = before.twin();
                checks.refused(x, "revoke(" + k + ")", () -> x.revoke(k), BAD_ARGUMENT);
            }
        }
    }

    private static void revokeOfASlotThatIsNotActive() {
        checks.part("9: 'NO_SLOT as with change', before LAST");
        for (int k = 0; k < 4; k++) {
            int slot = k;
            RecordedVolume x = fullVolume();
            due("revoke(" + k + ")", x.revoke(k), 0);
            checks.refused(x, "revoke(" + k + ") again", () -> x.revoke(slot), NO_SLOT);
        }
        RecordedVolume x = RecordedVolume.open(1, 2, 3, 4);
        for (int k = 1; k < 4; k++) {
            int slot = k;
            checks.refused(x, "revoke(" + k + ")", () -> x.revoke(slot), NO_SLOT);
        }
    }

    private static void revokeOffBeforeLockedBeforeTheNumber() {
        checks.part("9: 'OFF, LOCKED as with change'");
        RecordedVolume x = new RecordedVolume();
        for (int k = -1; k <= 4; k++) {
            int slot = k;
            checks.refused(x, "revoke(" + k + ") when OFF", () -> x.revoke(slot), OFF);
        }
        x.format(1, 2, 3, 4);
        for (int k = -1; k <= 4; k++) {
            int slot = k;
            checks.refused(x, "revoke(" + k + ") when LOCKED", () -> x.revoke(slot), LOCKED);
        }
    }

    private static void revokeOfTheLastSlot() {
        checks.part("9: 'LAST when no other slot is ACTIVE'");
        for (int k = 0; k < 4; k++) {
            int last = k;
            RecordedVolume x = fullVolume();
            for (int other = 0; other < 4; other++) {
                if (other != k) {
                    due("revoke(" + other + ")", x.revoke(other), 0);
                }
            }
            checks.refused(x, "revoke(" + k + ")", () -> x.revoke(last), LAST);
            due("slots()", x.slots(), 1 << k);
            x.add(5, 6);
            due("revoke(" + k + ") when another is ACTIVE", x.revoke(k), 0);
        }
    }

    private static void revokeJustCut() {
        checks.part("9: 'Answers 0, or CUT'");
        RecordedVolume x = fullVolume();
        RecordedVolume y = x.twin();
        x.cut(19);
        due("revoke with cut(19)", x.revoke(3), CUT);
        due("state()", x.state(), 0);
        due("mount()", x.mount(), 3);
        y.cut(20);
        due("revoke with cut(20)", y.revoke(3), 0);
        due("state()", y.state(), 2);
    }

    // Promise 13

    private static void slotsOfEachSum() {
        checks.part("13: '1 for slot 0, 2 for slot 1, 4 for slot 2, 8 for slot 3'");
        due("slots() of a new object", new RecordedVolume().slots(), 0);
        for (int sum = 1; sum < 16; sum++) {
            RecordedVolume x = fullVolume();
            for (int k = 0; k < 4; k++) {
                if ((sum >> k & 1) == 0) {
                    x.revoke(k);
                }
            }
            checks.refused(x, "slots() when OPEN", () -> x.slots(), sum);
            due("mount()", x.mount(), Integer.bitCount(sum));
            checks.refused(x, "slots() when LOCKED", () -> x.slots(), sum);
        }
    }

    private static void slotsWhenOff() {
        checks.part("13: '(as the disk says, also when the device is OFF)'");
        for (int n = 0; n <= 80; n++) {
            RecordedVolume x = fullVolume();
            x.cut(n);
            due("format cut at " + n, x.format(5, 6, 7, 8), CUT);
            int want = 15;
            for (int k = 1; k < 4; k++) {
                want -= n > 4 + 8 * k ? 1 << k : 0;
            }
            checks.refused(x, "slots() after a format cut at " + n, () -> x.slots(), want);
        }
        for (int n = 0; n < 20; n++) {
            RecordedVolume x = fullVolume();
            x.cut(n);
            due("revoke cut at " + n, x.revoke(2), CUT);
            due("slots() after a revoke cut at " + n, x.slots(), n < 11 ? 15 : 11);
        }
    }

    private static RecordedVolume fullVolume() {
        RecordedVolume x = RecordedVolume.open(1, 2, 3, 4);
        x.add(31, 41);
        x.add(32, 42);
        x.add(33, 43);
        return x;
    }

    private static void due(String call, long got, long want) {
        checks.due(call, got, want);
    }
}
