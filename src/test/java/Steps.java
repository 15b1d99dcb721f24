/** Runs of calls that many tests begin with. */
final class Steps {
    private Steps() {
    }

    static void putText(IdentityIssuer x, String text) {
        for (int i = 0; i < text.length(); i++) {
            if (!x.put(text.charAt(i), 1)) {
                throw new IllegalStateException("the buffer is full");
            }
        }
    }

    static void putBytes(IdentityIssuer x, int[] bytes) {
        for (int b : bytes) {
            if (!x.put(b, 1)) {
                throw new IllegalStateException("the buffer is full");
            }
        }
    }

    static int id(IdentityIssuer x, String text) {
        putText(x, text);
        return x.id();
    }

    static int verify(IdentityIssuer x, int[] bytes) {
        putBytes(x, bytes);
        return x.verify();
    }

    /** IDs 0 spiffe://o, 1 spiffe://o/1, .. up to the given number. */
    static IdentityIssuer withIds(int life, int last) {
        IdentityIssuer x = new IdentityIssuer(life);
        id(x, "spiffe://o");
        for (int i = 1; i <= last; i++) {
            id(x, "spiffe://o/" + i);
        }
        return x;
    }

    static int[] written(IdentityIssuer x, int k) {
        int length = 0;
        while (length < 200 && x.written(k, length) != IdentityIssuer.MISSING) {
            length++;
        }
        int[] bytes = new int[length];
        for (int p = 0; p < length; p++) {
            bytes[p] = x.written(k, p);
        }
        return bytes;
    }
}
