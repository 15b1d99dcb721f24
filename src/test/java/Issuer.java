/**
 * An IdentityIssuer that minds its 512 calls: what later ones answer is free, so no test may look at them.
 * Beside the calls of the face it has runs of calls that many tests need.
 */
final class Issuer {
    static final int CALLS = 512;

    private final IdentityIssuer x;
    private int calls;

    Issuer(int life) {
        x = new IdentityIssuer(life);
    }

    /** IDs 0 spiffe://o, 1 spiffe://o/1, .. up to the given number. */
    static Issuer withIds(int life, int last) {
        Issuer x = new Issuer(life);
        x.id("spiffe://o");
        for (int i = 1; i <= last; i++) {
            x.id("spiffe://o/" + i);
        }
        return x;
    }

    private IdentityIssuer next() {
        calls++;
        if (calls > CALLS) {
            throw new IllegalStateException("a test makes more than 512 calls of one object");
        }
        return x;
    }

    int calls() {
        return calls;
    }

    boolean put(int word, int n) {
        return next().put(word, n);
    }

    int id() {
        return next().id();
    }

    int entry(int id, int parent, int selectors, int ttl, int friends) {
        return next().entry(id, parent, selectors, ttl, friends);
    }

    boolean remove(int e) {
        return next().remove(e);
    }

    boolean foreign(int k, boolean there) {
        return next().foreign(k, there);
    }

    int attest(int id, int selectors) {
        return next().attest(id, selectors);
    }

    int sync(int a) {
        return next().sync(a);
    }

    int fetch(int a, int selectors) {
        return next().fetch(a, selectors);
    }

    int watch(int a, int selectors) {
        return next().watch(a, selectors);
    }

    int poll(int w) {
        return next().poll(w);
    }

    int svid(int k, int what) {
        return next().svid(k, what);
    }

    int key(int k) {
        return next().key(k);
    }

    int friends() {
        return next().friends();
    }

    int written(int k, int p) {
        return next().written(k, p);
    }

    int verify() {
        return next().verify();
    }

    int prepare() {
        return next().prepare();
    }

    boolean activate() {
        return next().activate();
    }

    int tick(int n) {
        return next().tick(n);
    }

    /** Appends all of it to the buffer, four bytes a call. */
    void putAll(int[] bytes) {
        for (int i = 0; i < bytes.length; i += 4) {
            int n = Math.min(4, bytes.length - i);
            int word = 0;
            for (int j = 0; j < n; j++) {
                word = word << 8 | bytes[i + j];
            }
            if (!put(word, n)) {
                throw new IllegalStateException("the buffer is full");
            }
        }
    }

    void putAll(String text) {
        putAll(text.chars().toArray());
    }

    int id(String text) {
        putAll(text);
        return id();
    }

    int verify(int[] bytes) {
        putAll(bytes);
        return verify();
    }

    /** The k-th certificate of the latest response, all its bytes. */
    int[] written(int k) {
        int[] bytes = new int[CALLS];
        int length = 0;
        int found = written(k, 0);
        while (found != IdentityIssuer.MISSING) {
            bytes[length] = found;
            length++;
            found = written(k, length);
        }
        return java.util.Arrays.copyOf(bytes, length);
    }

    /** Ticks as often as it takes. */
    void pass(int time) {
        for (int left = time; left > 0; left -= 64) {
            tick(Math.min(64, left));
        }
    }
}
