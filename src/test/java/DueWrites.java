import java.util.ArrayList;
import java.util.List;

/** The writes that a call is due to do, in their order. */
final class DueWrites {
    private final List<int[]> writes = new ArrayList<>();

    static DueWrites none() {
        return new DueWrites();
    }

    /** The words of a change by the journal, as the document's CHANGING says. */
    static DueWrites byJournal(int q, int[] words) {
        DueWrites due = new DueWrites();
        for (int i = 0; i < words.length; i++) {
            due.put(38 + i, words[i]);
        }
        return due.put(37, q + 256 * words.length).put(36, 1).finishing(q, words);
    }

    static DueWrites ofFormat(int[] volume) {
        DueWrites due = none().put(0, 0);
        for (int place = 1; place < volume.length; place++) {
            due.put(place, volume[place]);
        }
        return due.put(0, Model.MARK);
    }

    DueWrites put(int place, int word) {
        writes.add(new int[] {place, word});
        return this;
    }

    DueWrites finishing(int q, int[] words) {
        for (int i = 0; i < words.length; i++) {
            put(q + i, words[i]);
        }
        return put(36, 0).put(37, 0).clearing(words);
    }

    /** The words that lie from place 38 on become 0; those that are 0 already are left alone. */
    DueWrites clearing(int[] words) {
        for (int i = 0; i < words.length; i++) {
            if (words[i] != 0) {
                put(38 + i, 0);
            }
        }
        return this;
    }

    int count() {
        return writes.size();
    }

    void apply(int number, int[] disk) {
        int[] write = writes.get(number);
        disk[write[0]] = write[1];
    }
}
