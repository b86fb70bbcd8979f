import java.math.BigInteger;

/**
 * The sums, products and shifts of the document's H and E over numbers without a bound, each cut
 * down to 32 bits by hand: it shows what the wrap-around of int has to give.
 */
final class WideMath {
    private static final BigInteger WORDS = BigInteger.ONE.shiftLeft(32);

    static int h(int a, int b) {
        BigInteger x = word(a ^ 1517746329)
            .multiply(BigInteger.valueOf(916191069)).add(word(b)).mod(WORDS);
        x = x.xor(x.shiftRight(15));
        x = x.multiply(BigInteger.valueOf(1406938949)).mod(WORDS);
        return x.xor(x.shiftRight(13)).intValue();
    }

    static int e(int k, int x) {
        long l = word(x).longValue() / 65536;
        long r = word(x).longValue() % 65536;
        for (int j = 0; j < 4; j++) {
            long mixed = word(h(h(k, j), (int) r)).longValue() % 65536;
            long newR = l ^ mixed;
            l = r;
            r = newR;
        }
        return BigInteger.valueOf(l * 65536 + r).intValue();
    }

    static int doubled(int t) {
        BigInteger twice = word(t).shiftLeft(1);
        boolean below0 = twice.compareTo(WORDS) >= 0;
        return twice.mod(WORDS).xor(BigInteger.valueOf(below0 ? 141 : 0)).intValue();
    }

    private static BigInteger word(int x) {
        return BigInteger.valueOf(Integer.toUnsignedLong(x));
    }
}
