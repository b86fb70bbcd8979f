/** A part for each sentence of promises 10, 11, 14 and 15 (the words) that names a boundary. */
public final class WordBoundaryTest {
    private static final int CUT = StripedKeyVolume.CUT;
    private static final int OFF = StripedKeyVolume.OFF;
    private static final int LOCKED = StripedKeyVolume.LOCKED;
    private static final int BAD_ARGUMENT = StripedKeyVolume.BAD_ARGUMENT;

    private static final int MIN = Integer.MIN_VALUE;
    private static final int MAX = Integer.MAX_VALUE;
    private static final int[] EDGES = {MIN, MIN + 1, -65536, -2, -1, 0, 1, 65535, 65536, MAX};

    // 4 s wraps around to a sector's place for the numbers near 2^30 and 2^31.
    private static final int[] NO_SECTORS = {
        -1, 8, 9, -8, 12, 1 << 30, (1 << 30) + 7, -(1 << 30), MIN, MIN + 7, MAX};
    private static final int[] NO_WORDS = {-1, 4, 5, -4, 8, 32, MIN, MAX};

    private static final Checks checks = new Checks("WordBoundaryTest");

    public static void main(String[] args) {
        writeOfEveryWord();
        writeLeavesTheOtherThree();
        writeAtTheEdgesOfInt();
        writeWithTheKeysHeld();
        writeOfNoWord();
        writeOffBeforeLockedBeforeTheNumbers();
        writeJustCut();
        readOfEveryWord();
        readWithoutSign();
        readWithTheKeysHeld();
        readOfNoWord();
        readOffBeforeLockedBeforeTheNumbers();
        peekOfEveryPlace();
        peekWhenOff();
        peekOfNoPlace();
        writesOfEveryCall();
        writesOfCallsThatWriteNothing();
        writesOfCallsThatAreCut();
        checks.end();
    }

    // Promise 10

    private static void writeOfEveryWord() {
        checks.part("10: 'Word i of sector s becomes v', from 0, 0 to 7, 3");
        RecordedVolume x = RecordedVolume.open(1, 2, 3, 4);
        int[] want = Model.volume(1, 2, 3, 4);
        for (int word = 31; word >= 0; word--) {
            int s = word / 4;
            int i = word % 4;
            due("write(" + s + ", " + i + ")", x.write(s, i, -word), 0);
            want[48 + word] = Model.kept(1, 2, s, i, -word);
            checks.disk("write(" + s + ", " + i + ")", x, want);
            due("state()", x.state(), 2);
        }
    }

    private static void writeLeavesTheOtherThree() {
        checks.part("10: 'the other three stay'");
        for (int i = 0; i < 4; i++) {
            RecordedVolume x = RecordedVolume.open(1, 2, 3, 4);
            for (int word = 0; word < 32; word++) {
                x.write(word / 4, word % 4, 1000 + word);
            }
            due("write", x.write(3, i, 0), 0);
            for (int word = 0; word < 32; word++) {
                int want = word == 12 + i ? 0 : 1000 + word;
                due("read of word " + word, x.read(word / 4, word % 4), want);
            }
        }
    }

    private static void writeAtTheEdgesOfInt() {
        checks.part("10: 'becomes v'");
        RecordedVolume x = RecordedVolume.open(-1, MIN, 3, 4);
        for (int v : EDGES) {
            due("write", x.write(7, 3, v), 0);
            due("peek(79)", x.peek(79), Model.kept(-1, MIN, 7, 3, v));
            due("write", x.write(0, 0, v), 0);
            due("peek(48)", x.peek(48), Model.kept(-1, MIN, 0, 0, v));
        }
    }

    private static void writeWithTheKeysHeld() {
        checks.part("10: 'deciphered with these', the keys that the device holds");
        RecordedVolume x = new RecordedVolume();
        x.format(11, 22, 333, 5);
        x.unlock(ChanceKeys.PASSPHRASE);
        int[] want = x.words();
        due("write", x.write(4, 1, 5), 0);
        want[65] = Model.kept(ChanceKeys.A, ChanceKeys.B, 4, 1, 5);
        checks.disk("a write with other keys: the other three stay", x, want);
    }

    private static void writeOfNoWord() {
        checks.part("10: 'BAD_ARGUMENT when s is not 0 .. 7 or i is not 0 .. 3'");
        RecordedVolume x = RecordedVolume.open(1, 2, 3, 4);
        for (int s : NO_SECTORS) {
            checks.refused(x, "write(" + s + ", 0)", () -> x.write(s, 0, 5), BAD_ARGUMENT);
            checks.refused(x, "write(" + s + ", 3)", () -> x.write(s, 3, 5), BAD_ARGUMENT);
            checks.refused(x, "write(" + s + ", 4)", () -> x.write(s, 4, 5), BAD_ARGUMENT);
        }
        for (int i : NO_WORDS) {
            checks.refused(x, "write(0, " + i + ")", () -> x.write(0, i, 5), BAD_ARGUMENT);
            checks.refused(x, "write(7, " + i + ")", () -> x.write(7, i, 5), BAD_ARGUMENT);
        }
    }

    private static void writeOffBeforeLockedBeforeTheNumbers() {
        checks.part("10: 'OFF, LOCKED as with add; otherwise BAD_ARGUMENT'");
        RecordedVolume x = new RecordedVolume();
        checks.refused(x, "write when OFF", () -> x.write(0, 0, 5), OFF);
        checks.refused(x, "write(8, 0) when OFF", () -> x.write(8, 0, 5), OFF);
        checks.refused(x, "write(0, -1) when OFF", () -> x.write(0, -1, 5), OFF);
        x.format(1, 2, 3, 4);
        checks.refused(x, "write when LOCKED", () -> x.write(0, 0, 5), LOCKED);
        checks.refused(x, "write(-1, 0) when LOCKED", () -> x.write(-1, 0, 5), LOCKED);
        checks.refused(x, "write(0, 4) when LOCKED", () -> x.write(0, 4, 5), LOCKED);
    }

    private static void writeJustCut() {
        checks.part("10: 'Answers 0, or CUT'");
        RecordedVolume x = RecordedVolume.open(1, 2, 3, 4);
        RecordedVolume y = x.twin();
        x.cut(15);
        due("write with cut(15)", x.write(7, 3, 5), CUT);
        due("state()", x.state(), 0);
        due("mount()", x.mount(), 1);
        due("unlock(3)", x.unlock(3), 0);
        due("read(7, 3): the word is there", x.read(7, 3), 5);
        y.cut(16);
        due("write with cut(16)", y.write(7, 3, 5), 0);
        due("state()", y.state(), 2);
    }

    // Promise 11

    private static void readOfEveryWord() {
        checks.part("11: 'Word i of sector s', from 0, 0 to 7, 3");
        RecordedVolume x = RecordedVolume.open(1, 2, 3, 4);
        for (int word = 0; word < 32; word++) {
            int s = word / 4;
            int i = word % 4;
            checks.refused(x, "read of a new volume", () -> x.read(s, i), 0);
        }
        for (int word = 0; word < 32; word++) {
            x.write(word / 4, word % 4, word + 1);
        }
        for (int word = 0; word < 32; word++) {
            due("read of word " + word, x.read(word / 4, word % 4), word + 1);
        }
    }

    private static void readWithoutSign() {
        checks.part("11: 'a number without sign, 0 .. 2^32 - 1'");
        RecordedVolume x = RecordedVolume.open(1, 2, 3, 4);
        long[] numbers = {0, 1, 65535, 65536, 2147483647L, 2147483648L, 2147483649L,
            4294901760L, 4294967286L, 4294967287L, 4294967291L, 4294967294L, 4294967295L};
        for (long number : numbers) {
            due("write", x.write(5, 1, (int) number), 0);
            due("read", x.read(5, 1), number);
        }
    }

    private static void readWithTheKeysHeld() {
        checks.part("11: 'deciphered with the master keys that the device holds'");
        RecordedVolume x = new RecordedVolume();
        x.format(11, 22, 333, 5);
        x.unlock(ChanceKeys.PASSPHRASE);
        for (int word = 0; word < 32; word++) {
            int t = Model.tweak(ChanceKeys.B, word / 4, word % 4);
            int kept = Model.kept(11, 22, word / 4, word % 4, 0);
            long want = Integer.toUnsignedLong(Model.d(ChanceKeys.A, kept ^ t) ^ t);
            due("read of word " + word, x.read(word / 4, word % 4), want);
        }
        x.unlock(333);
        due("read(0, 0)", x.read(0, 0), 0);
    }

    private static void readOfNoWord() {
        checks.part("11: 'BAD_ARGUMENT as with write'");
        RecordedVolume x = RecordedVolume.open(1, 2, 3, 4);
        for (int s : NO_SECTORS) {
            checks.refused(x, "read(" + s + ", 0)", () -> x.read(s, 0), BAD_ARGUMENT);
            checks.refused(x, "read(" + s + ", 3)", () -> x.read(s, 3), BAD_ARGUMENT);
            checks.refused(x, "read(" + s + ", 4)", () -> x.read(s, 4), BAD_ARGUMENT);
        }
        for (int i : NO_WORDS) {
            checks.refused(x, "read(0, " + i + ")", () -> x.read(0, i), BAD_ARGUMENT);
            checks.refused(x, "read(7, " + i + ")", () -> x.read(7, i), BAD_ARGUMENT);
        }
    }

    private static void readOffBeforeLockedBeforeTheNumbers() {
        checks.part("11: 'OFF, LOCKED as with write'");
        RecordedVolume x = new RecordedVolume();
        checks.refused(x, "read when OFF", () -> x.read(0, 0), OFF);
        checks.refused(x, "read(8, 0) when OFF", () -> x.read(8, 0), OFF);
        checks.refused(x, "read(0, -1) when OFF", () -> x.read(0, -1), OFF);
        x.format(1, 2, 3, 4);
        checks.refused(x, "read when LOCKED", () -> x.read(0, 0), LOCKED);
        checks.refused(x, "read(-1, 0) when LOCKED", () -> x.read(-1, 0), LOCKED);
        checks.refused(x, "read(0, 4) when LOCKED", () -> x.read(0, 4), LOCKED);
    }

    // Promise 14

    private static void peekOfEveryPlace() {
        checks.part("14: 'The word of the disk at a place', 0 .. 79");
        int[] want = Model.volume(-1, -2, -3, -4);
        RecordedVolume x = new RecordedVolume();
        x.format(-1, -2, -3, -4);
        for (int place = 0; place < 80; place++) {
            due("peek(" + place + ") when LOCKED", x.peek(place), want[place]);
        }
        x.unlock(-3);
        for (int place = 0; place < 80; place++) {
            due("peek(" + place + ") when OPEN", x.peek(place), want[place]);
        }
        checks.refused(x, "peek(0)", () -> x.peek(0), 1396855379);
        checks.refused(x, "peek(79)", () -> x.peek(79), want[79]);
    }

    private static void peekWhenOff() {
        checks.part("14: 'also when the device is OFF'");
        RecordedVolume x = RecordedVolume.open(1, 2, 3, 4);
        x.cut(11);
        due("add", x.add(5, 6), CUT);
        int[] want = Model.volume(1, 2, 3, 4);
        want[12] = 1;
        want[36] = 1;
        want[37] = 12 + 256 * 8;
        System.arraycopy(Model.slotFor(5, 6, 1, 2), 0, want, 38, 8);
        for (int place = 0; place < 80; place++) {
            due("peek(" + place + ") when OFF", x.peek(place), want[place]);
        }
        due("state()", x.state(), 0);
    }

    private static void peekOfNoPlace() {
        checks.part("14: '0 when the place is not 0 .. 79'");
        RecordedVolume off = new RecordedVolume();
        RecordedVolume open = RecordedVolume.open(1, 2, 3, 4);
        for (int place : new int[] {-1, -80, 80, 81, 127, 128, 256, MIN, MIN + 1, MAX}) {
            checks.refused(off, "peek(" + place + ") when OFF", () -> off.peek(place), 0);
            checks.refused(open, "peek(" + place + ") when OPEN", () -> open.peek(place), 0);
        }
    }

    // Promise 15

    private static void writesOfEveryCall() {
        checks.part("15: 'How many writes were done', by calls that write");
        RecordedVolume x = new RecordedVolume();
        due("writes()", x.writes(), 0);
        x.format(1, 2, 3, 4);
        due("writes() after format", x.writes(), 81);
        x.unlock(3);
        x.add(5, 6);
        due("writes() after add", x.writes(), 81 + 28);
        x.change(1, 7, 8);
        due("writes() after change", x.writes(), 81 + 56);
        x.revoke(1);
        due("writes() after revoke", x.writes(), 81 + 76);
        x.write(0, 0, 0);
        due("writes() after write", x.writes(), 81 + 92);
        x.cut(10);
        x.add(5, 6);
        due("writes() after an add cut at 10", x.writes(), 81 + 102);
        x.mount();
        due("writes() after a mount that FINISHES", x.writes(), 81 + 120);
        x.format(1, 2, 3, 4);
        due("writes() after format: it does not begin again", x.writes(), 81 + 201);
    }

    private static void writesOfCallsThatWriteNothing() {
        checks.part("15: 'How many writes were done', by calls that write nothing");
        RecordedVolume x = new RecordedVolume();
        x.mount();
        x.unlock(3);
        x.lock();
        x.add(5, 6);
        x.write(0, 0, 0);
        due("writes() after calls that are refused", x.writes(), 0);
        x.format(1, 2, 3, 4);
        x.mount();
        x.unlock(4);
        x.unlock(3);
        x.cut(9);
        x.cut(-2);
        x.read(0, 0);
        x.state();
        x.slots();
        x.peek(0);
        x.lock();
        checks.refused(x, "writes()", () -> x.writes(), 81);
        x.unlock(3);
        x.write(8, 0, 0);
        x.revoke(0);
        x.change(3, 5, 6);
        due("writes() after calls that are refused", x.writes(), 81);
    }

    private static void writesOfCallsThatAreCut() {
        checks.part("15: 'it is not done', so it is not counted");
        RecordedVolume x = new RecordedVolume();
        int want = 0;
        for (int n = 0; n <= 80; n++) {
            x.cut(n);
            due("format cut at " + n, x.format(1, 2, 3, 4), CUT);
            want += n;
            due("writes()", x.writes(), want);
        }
    }

    private static void due(String call, long got, long want) {
        checks.due(call, got, want);
    }
}
