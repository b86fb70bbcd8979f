import java.util.ArrayList;
import java.util.List;
import java.util.function.LongSupplier;
import java.util.function.ToLongFunction;

/** Counts and prints the answers that are not the ones that are due. */
final class Checks {
    private static final int SHOWN_AT_MOST = 40;
    private static final int DEVICE_OFF = 0;

    private final String test;
    private final List<String> faults = new ArrayList<>();
    private String part = "";

    Checks(String test) {
        this.test = test;
    }

    void part(String name) {
        part = name;
    }

    void due(String call, long got, long want) {
        if (got != want) {
            fault(call + " answered " + got + ", due is " + want);
        }
    }

    void due(String call, boolean got, boolean want) {
        if (got != want) {
            fault(call + " answered " + got + ", due is " + want);
        }
    }

    /** A call that answers so and changes nothing that can be seen. */
    void refused(RecordedVolume x, String call, LongSupplier made, long want) {
        long[] before = x.everything();
        due(call, made.getAsLong(), want);
        long[] after = x.everything();
        for (int i = 0; i < before.length; i++) {
            due("what is seen (number " + i + ") after " + call, after[i], before[i]);
        }
    }

    void disk(String call, RecordedVolume x, int[] want) {
        words(call, x, 0, want);
    }

    void words(String call, RecordedVolume x, int from, int[] want) {
        int[] got = x.words();
        for (int i = 0; i < want.length; i++) {
            due("peek(" + (from + i) + ") after " + call, got[from + i], want[i]);
        }
    }

    /**
     * Makes the call with a cut before each of its writes, and with a cut just behind the last: it
     * does the writes that are due, in their order, and no other.
     */
    void writesInOrder(
            String call, RecordedVolume before, ToLongFunction<RecordedVolume> made,
            DueWrites writes, int answer, int state) {
        int[] want = before.words();
        for (int n = 0; n <= writes.count(); n++) {
            boolean isCut = n < writes.count();
            String cutCall = call + " with cut(" + n + ")";
            RecordedVolume x = before.twin();
            int writesBefore = x.writes();
            x.cut(n);
            due(cutCall, made.applyAsLong(x), isCut ? StripedKeyVolume.CUT : answer);
            due("state() after " + cutCall, x.state(), isCut ? DEVICE_OFF : state);
            due("writes() of " + cutCall, x.writes() - writesBefore, n);
            disk(cutCall, x, want);
            due("a format after " + cutCall,
                x.format(1, 2, 3, 4), isCut ? 0 : StripedKeyVolume.CUT);
            due("writes() of a format after " + cutCall,
                x.writes() - writesBefore - n, isCut ? 81 : 0);
            if (isCut) {
                writes.apply(n, want);
            }
        }
    }

    private void fault(String text) {
        faults.add(part + ": " + text);
        if (faults.size() <= SHOWN_AT_MOST) {
            System.out.println(test + ", " + part + ": " + text);
        }
    }

    void end() {
        System.out.println(faults.isEmpty()
            ? test + ": all answers are as due"
            : test + ": " + faults.size() + " answers are not as due");
        if (!faults.isEmpty()) {
            System.exit(1);
        }
    }
}
