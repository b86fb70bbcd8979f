import java.util.ArrayList;
import java.util.List;
import java.util.function.ToLongFunction;

/**
 * A volume that keeps the calls made on it, so that its whole disk can be looked at on a twin that
 * gets the same calls: the document promises nothing after the 512th call of one object.
 */
final class RecordedVolume {
    static final int CALLS_AT_MOST = 512;
    static final int PLACES = 80;

    private final StripedKeyVolume volume = new StripedKeyVolume();
    private final List<ToLongFunction<StripedKeyVolume>> calls = new ArrayList<>();

    int[] words() {
        StripedKeyVolume twin = new StripedKeyVolume();
        for (ToLongFunction<StripedKeyVolume> call : calls) {
            call.applyAsLong(twin);
        }
        int[] words = new int[PLACES];
        for (int place = 0; place < PLACES; place++) {
            words[place] = twin.peek(place);
        }
        return words;
    }

    private long made(ToLongFunction<StripedKeyVolume> call) {
        calls.add(call);
        if (calls.size() + PLACES > CALLS_AT_MOST) {
            throw new IllegalStateException("this test makes too many calls on one object");
        }
        return call.applyAsLong(volume);
    }

    boolean cut(int n) {
        return made(v -> v.cut(n) ? 1 : 0) == 1;
    }

    int format(int a, int b, int passphrase, int seed) {
        return (int) made(v -> v.format(a, b, passphrase, seed));
    }

    int mount() {
        return (int) made(StripedKeyVolume::mount);
    }

    int unlock(int passphrase) {
        return (int) made(v -> v.unlock(passphrase));
    }

    int lock() {
        return (int) made(StripedKeyVolume::lock);
    }

    int add(int passphrase, int seed) {
        return (int) made(v -> v.add(passphrase, seed));
    }

    int change(int k, int passphrase, int seed) {
        return (int) made(v -> v.change(k, passphrase, seed));
    }

    int revoke(int k) {
        return (int) made(v -> v.revoke(k));
    }

    int write(int s, int i, int v) {
        return (int) made(x -> x.write(s, i, v));
    }

    long read(int s, int i) {
        return made(v -> v.read(s, i));
    }

    int state() {
        return (int) made(StripedKeyVolume::state);
    }

    int slots() {
        return (int) made(StripedKeyVolume::slots);
    }

    int peek(int place) {
        return (int) made(v -> v.peek(place));
    }

    int writes() {
        return (int) made(StripedKeyVolume::writes);
    }
}
