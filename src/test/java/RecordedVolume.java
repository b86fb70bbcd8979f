import java.util.ArrayList;
import java.util.List;
import java.util.function.ToLongFunction;

/**
 * A volume that keeps the calls made on it, so that anything can be tried on a twin that gets the
 * same calls: looking at the whole disk of one object would use up the 512 calls for which the
 * document speaks.
 */
final class RecordedVolume {
    static final int CALLS_AT_MOST = 512;
    static final int PLACES = 80;

    private static final int WORDS = 32;
    private static final int TRIED_WRITES = 3;

    private final StripedKeyVolume volume = new StripedKeyVolume();
    private final List<ToLongFunction<StripedKeyVolume>> calls = new ArrayList<>();

    static RecordedVolume open(int a, int b, int passphrase, int seed) {
        RecordedVolume x = new RecordedVolume();
        x.format(a, b, passphrase, seed);
        x.unlock(passphrase);
        return x;
    }

    RecordedVolume twin() {
        RecordedVolume twin = new RecordedVolume();
        for (ToLongFunction<StripedKeyVolume> call : calls) {
            twin.made(call);
        }
        return twin;
    }

    int[] words() {
        RecordedVolume twin = twin();
        int[] words = new int[PLACES];
        for (int place = 0; place < PLACES; place++) {
            words[place] = twin.peek(place);
        }
        return words;
    }

    /**
     * All that calls can tell: what the device is, the disk, the words that its keys make of it,
     * and how many writes a cut leaves.
     */
    long[] everything() {
        RecordedVolume twin = twin();
        List<Long> seen = new ArrayList<>();
        seen.add((long) twin.state());
        seen.add((long) twin.slots());
        seen.add((long) twin.writes());
        for (int place = 0; place < PLACES; place++) {
            seen.add((long) twin.peek(place));
        }
        for (int word = 0; word < WORDS; word++) {
            seen.add(twin.read(word / 4, word % 4));
        }
        for (int tried = 0; tried < TRIED_WRITES; tried++) {
            seen.add((long) twin.format(1, 2, 3, 4));
            seen.add((long) twin.writes());
        }
        return seen.stream().mapToLong(Long::longValue).toArray();
    }

    int callsMade() {
        return calls.size();
    }

    private long made(ToLongFunction<StripedKeyVolume> call) {
        calls.add(call);
        if (calls.size() > CALLS_AT_MOST) {
            throw new IllegalStateException("this test makes too many calls on one object");
        }
        return call.applyAsLong(volume);
    }

    boolean cut(int n) {
        return made(v -> v.cut(n) ? 1 : 0) == 1;
    }

    int format(int a, int b, int passphrase, int seed) {
        return (int) made(v -> v.format(a, b, passphrase, seed));
    }

    int mount() {
        return (int) made(StripedKeyVolume::mount);
    }

    int unlock(int passphrase) {
        return (int) made(v -> v.unlock(passphrase));
    }

    int lock() {
        return (int) made(StripedKeyVolume::lock);
    }

    int add(int passphrase, int seed) {
        return (int) made(v -> v.add(passphrase, seed));
    }

    int change(int k, int passphrase, int seed) {
        return (int) made(v -> v.change(k, passphrase, seed));
    }

    int revoke(int k) {
        return (int) made(v -> v.revoke(k));
    }

    int write(int s, int i, int v) {
        return (int) made(x -> x.write(s, i, v));
    }

    long read(int s, int i) {
        return made(v -> v.read(s, i));
    }

    int state() {
        return (int) made(StripedKeyVolume::state);
    }

    int slots() {
        return (int) made(StripedKeyVolume::slots);
    }

    int peek(int place) {
        return (int) made(v -> v.peek(place));
    }

    int writes() {
        return (int) made(StripedKeyVolume::writes);
    }
}
