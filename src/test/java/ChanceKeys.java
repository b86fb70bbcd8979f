/**
 * A passphrase that opens slot 0 of format(11, 22, 333, 5) by chance: it gives other words than 11
 * and 22, with the same digest. It was found by trying all passphrases, and shows with which keys a
 * device works.
 */
final class ChanceKeys {
    static final int PASSPHRASE = -892350157;
    static final int A = -504801717;
    static final int B = -984965049;

    private ChanceKeys() {
    }
}
