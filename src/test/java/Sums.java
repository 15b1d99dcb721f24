import java.math.BigInteger;
import java.util.HashMap;
import java.util.Map;

/** Finds IDs whose certificates have a sum or a signature that is wanted: two halves of three characters meet. */
final class Sums {
    static final long MODULUS = 1000000007L;
    private static final long INVERSE = BigInteger.valueOf(257).modInverse(BigInteger.valueOf(MODULUS)).longValue();
    private static final String LETTERS = "ABCDEFGHIJKLMNOPQRSTUVWXYZabcdefghijklmnopqrstuvwxyz0123456789-_";

    private Sums() {
    }

    /** What is to be signed so that this is the signature by a key; not below MODULUS when there is no such sum. */
    static long sumFor(long signature, int key) {
        BigInteger modulus = BigInteger.valueOf(Forge.modulus(key));
        return BigInteger.valueOf(signature).modPow(BigInteger.valueOf(65537), modulus).longValue();
    }

    static String idWithSum(long sum, int serial, int key, int start, int end) {
        String front = "spiffe://o/";
        int[] body = Forge.body(Forge.number(serial), Forge.number(key), Forge.number(start), Forge.number(end),
            front + "abcdef");
        long h = 1;
        for (int p = 0; p < body.length - 10; p++) {
            h = after(h, body[p]);
        }
        Map<Long, String> firstHalves = firstHalves(h);
        long behind = sum;
        for (int b : new int[] {128, 7, 2, 3}) {
            behind = before(behind, b);
        }
        for (char f : LETTERS.toCharArray()) {
            for (char e : LETTERS.toCharArray()) {
                for (char d : LETTERS.toCharArray()) {
                    String half = firstHalves.get(before(before(before(behind, f), e), d));
                    if (half != null) {
                        return front + half + d + e + f;
                    }
                }
            }
        }
        throw new IllegalStateException("no ID has a certificate of sum " + sum);
    }

    private static Map<Long, String> firstHalves(long h) {
        Map<Long, String> halves = new HashMap<>();
        for (char a : LETTERS.toCharArray()) {
            for (char b : LETTERS.toCharArray()) {
                for (char c : LETTERS.toCharArray()) {
                    halves.put(after(after(after(h, a), b), c), "" + a + b + c);
                }
            }
        }
        return halves;
    }

    private static long after(long h, int b) {
        return (h * 257 + b + 1) % MODULUS;
    }

    private static long before(long h, int b) {
        return (h + MODULUS - b - 1) % MODULUS * INVERSE % MODULUS;
    }
}
