import java.io.ByteArrayOutputStream;
import java.math.BigInteger;

/** Writes and signs certificates with the Java library's numbers, apart from the program's way. */
final class Forge {
    private static final long[][] FACTORS = {{32749, 32719}, {32717, 32713}, {32707, 32693}, {32687, 32653}};
    private static final BigInteger PUBLIC = BigInteger.valueOf(65537);

    private Forge() {
    }

    static int[] certificate(int serial, int key, int start, int end, String id) {
        int[] body = body(number(serial), number(key), number(start), number(end), id);
        return around(body, number(sign(body, key)));
    }

    static int[] body(int[] serial, int[] key, int[] start, int[] end, String id) {
        int[] text = new int[id.length()];
        for (int i = 0; i < text.length; i++) {
            text[i] = id.charAt(i);
        }
        int[] inside = join(serial, key, start, end, new int[] {134, text.length}, text, new int[] {3, 2, 7, 128});
        return join(new int[] {48, inside.length}, inside);
    }

    static int[] around(int[] body, int[] signature) {
        return join(new int[] {48, body.length + signature.length}, body, signature);
    }

    static int[] number(long value) {
        byte[] bytes = BigInteger.valueOf(value).toByteArray();
        int[] number = new int[bytes.length + 2];
        number[0] = 2;
        number[1] = bytes.length;
        for (int i = 0; i < bytes.length; i++) {
            number[i + 2] = bytes[i] & 255;
        }
        return number;
    }

    static long sign(int[] bytes, int key) {
        BigInteger p = BigInteger.valueOf(FACTORS[key % 4][0]);
        BigInteger q = BigInteger.valueOf(FACTORS[key % 4][1]);
        BigInteger round = p.subtract(BigInteger.ONE).multiply(q.subtract(BigInteger.ONE));
        return sum(bytes).modPow(PUBLIC.modInverse(round), p.multiply(q)).longValue();
    }

    static boolean isRight(long signature, int[] bytes, int key) {
        BigInteger modulus = BigInteger.valueOf(modulus(key));
        return signature < modulus(key) && BigInteger.valueOf(signature).modPow(PUBLIC, modulus).equals(sum(bytes));
    }

    static long modulus(int key) {
        return FACTORS[key % 4][0] * FACTORS[key % 4][1];
    }

    private static BigInteger sum(int[] bytes) {
        BigInteger h = BigInteger.ONE;
        for (int b : bytes) {
            h = h.multiply(BigInteger.valueOf(257)).add(BigInteger.valueOf(b + 1)).mod(BigInteger.valueOf(1000000007));
        }
        return h;
    }

    static int[] join(int[]... parts) {
        ByteArrayOutputStream all = new ByteArrayOutputStream();
        for (int[] part : parts) {
            for (int b : part) {
                all.write(b);
            }
        }
        byte[] bytes = all.toByteArray();
        int[] joined = new int[bytes.length];
        for (int i = 0; i < joined.length; i++) {
            joined[i] = bytes[i] & 255;
        }
        return joined;
    }
}
