import java.util.ArrayList;
import java.util.List;

/** Counts and prints the answers that are not the ones that are due. */
final class Checks {
    private static final int SHOWN_AT_MOST = 40;

    private final String test;
    private final List<String> faults = new ArrayList<>();
    private String part = "";

    Checks(String test) {
        this.test = test;
    }

    void part(String name) {
        part = name;
    }

    void due(String call, long got, long want) {
        if (got != want) {
            fault(call + " answered " + got + ", due is " + want);
        }
    }

    void due(String call, boolean got, boolean want) {
        if (got != want) {
            fault(call + " answered " + got + ", due is " + want);
        }
    }

    void fault(String text) {
        faults.add(part + ": " + text);
        if (faults.size() <= SHOWN_AT_MOST) {
            System.out.println(test + ", " + part + ": " + text);
        }
    }

    void end() {
        System.out.println(faults.isEmpty()
            ? test + ": all answers are as due"
            : test + ": " + faults.size() + " answers are not as due");
        if (!faults.isEmpty()) {
            System.exit(1);
        }
    }
}
