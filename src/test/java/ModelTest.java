import java.util.Random;

/** All promises together: long random runs (the same ones each time), answered as the model answers them. */
public final class ModelTest {
    private static final int RUNS = 1500;
    private static final int CALLS = 512;
    private static final String[] TEXTS = {
        "spiffe://o", "spiffe://o/a", "spiffe://o/b", "spiffe://o/c", "spiffe://o/c/d", "spiffe://o/e", "spiffe://p",
        "spiffe://p/a", "spiffe://oo/a", "spiffe://o/f", "spiffe://o/g", "spiffe://o/h", "spiffe://o/i", "spiffe://o/j",
        "spiffe://o/" + "x".repeat(29), "spiffe://o.-_0123456/A.b-C_9"};
    private static final String MARKS = "spife:/.aZ0-_%~ \u0080\u00ff";

    private final Due due = new Due();
    private Random random = new Random(0);
    private IdentityIssuer x;
    private Model m;
    private int calls;
    private String at = "";

    public static void main(String[] args) {
        ModelTest test = new ModelTest();
        for (int run = 0; run < RUNS && test.due.wrong() < 20; run++) {
            test.run(run);
        }
        test.due.end();
    }

    private void run(int run) {
        random = new Random(run);
        int life = random.nextInt(4) == 0 ? random.nextInt(400) - 50 : 32 + random.nextInt(100);
        x = new IdentityIssuer(life);
        m = new Model(life);
        calls = 0;
        at = "run " + run + ": ";
        int names = random.nextInt(4) == 0 ? random.nextInt(14) : 8 + random.nextInt(6);
        for (int i = 0; i < names; i++) {
            putAll(TEXTS[random.nextInt(8) == 0 ? random.nextInt(TEXTS.length) : i]);
            is("id()", x.id(), m.id());
        }
        for (int id = 1; id < 4; id++) {
            is("attest(" + id + ", 7)", x.attest(id, 7), m.attest(id, 7));
            is("watch(" + (id - 1) + ", 7)", x.watch(id - 1, 7), m.watch(id - 1, 7));
        }
        // No step takes more than 110 calls; those of the last ones take one each, so that a run ends with the 512th.
        while (calls < CALLS - 110) {
            step(random.nextInt(100));
        }
        while (calls < CALLS) {
            step(random.nextBoolean() ? 22 + random.nextInt(32) : 83 + random.nextInt(15));
        }
        due.is(at + "calls", calls, CALLS);
    }

    private void is(String call, int got, int want) {
        calls++;
        due.is(at + calls + ": " + call, got, want);
    }

    private void is(String call, boolean got, boolean want) {
        is(call, got ? 1 : 0, want ? 1 : 0);
    }

    private void step(int dice) {
        if (dice < 4) {
            ids();
        } else if (dice < 18) {
            entries();
        } else if (dice < 22) {
            agents();
        } else if (dice < 42) {
            int a = random.nextInt(3) - random.nextInt(20) / 19;
            is("sync(" + a + ")", x.sync(a), m.sync(a));
        } else if (dice < 54) {
            responses();
        } else if (dice < 80) {
            look();
        } else if (dice < 83) {
            certificates();
        } else if (dice < 91) {
            int n = random.nextInt(10) == 0 ? random.nextInt(70) - 2 : 1 + random.nextInt(8);
            is("tick(" + n + ")", x.tick(n), m.tick(n));
        } else if (dice < 95) {
            is("prepare()", x.prepare(), m.prepare());
        } else if (dice < 98) {
            is("activate()", x.activate(), m.activate());
        } else {
            int word = random.nextInt();
            int n = random.nextInt(6);
            is("put(" + word + ", " + n + ")", x.put(word, n), m.put(word, n));
            is("id()", x.id(), m.id());
        }
    }

    private void putAll(String text) {
        for (int i = 0; i < text.length(); i += 4) {
            int n = Math.min(4, text.length() - i);
            int word = random.nextInt();
            for (int j = 0; j < n; j++) {
                word = word << 8 | text.charAt(i + j);
            }
            is("put(" + word + ", " + n + ")", x.put(word, n), m.put(word, n));
        }
    }

    private void ids() {
        StringBuilder text = new StringBuilder(TEXTS[random.nextInt(TEXTS.length)]);
        int changes = random.nextInt(4);
        for (int i = 0; i < changes; i++) {
            text.insert(random.nextInt(text.length() + 1), MARKS.charAt(random.nextInt(MARKS.length())));
        }
        if (random.nextInt(4) == 0) {
            text.append("/.".repeat(random.nextInt(3)));
        }
        putAll(text.toString());
        is("id() of " + text, x.id(), m.id());
    }

    private int bits(int max) {
        return random.nextInt(25) == 0 ? random.nextInt() >> random.nextInt(32) : 1 << random.nextInt(max) | random.nextInt(4);
    }

    private void entries() {
        if (random.nextInt(3) > 0) {
            int id = random.nextInt(8) == 0 ? random.nextInt(14) - 1 : 1 + random.nextInt(5);
            int parent = random.nextInt(6) - random.nextInt(30) / 29;
            int selectors = bits(3);
            int ttl = random.nextInt(15) == 0 ? random.nextInt(70) - 2 : 1 + random.nextInt(64);
            int friends = random.nextInt(random.nextInt(15) == 0 ? 18 : 16);
            is("entry(" + id + ", " + parent + ", " + selectors + ", " + ttl + ", " + friends + ")",
                x.entry(id, parent, selectors, ttl, friends), m.entry(id, parent, selectors, ttl, friends));
        } else if (random.nextBoolean()) {
            int e = random.nextInt(random.nextInt(3) == 0 ? 62 : 20) - 1;
            is("remove(" + e + ")", x.remove(e), m.remove(e));
        } else {
            int k = random.nextInt(6) - 1;
            boolean there = random.nextInt(3) > 0;
            is("foreign(" + k + ", " + there + ")", x.foreign(k, there), m.foreign(k, there));
        }
    }

    private void agents() {
        int a = random.nextInt(4);
        int selectors = bits(3);
        if (random.nextInt(3) == 0) {
            int id = 1 + random.nextInt(random.nextInt(4) == 0 ? 12 : 3) - random.nextInt(20) / 19;
            is("attest(" + id + ", " + selectors + ")", x.attest(id, selectors), m.attest(id, selectors));
        } else {
            is("watch(" + a + ", " + selectors + ")", x.watch(a, selectors), m.watch(a, selectors));
        }
    }

    private void responses() {
        if (random.nextBoolean()) {
            int a = random.nextInt(20) == 0 ? random.nextInt(6) - 1 : random.nextInt(3);
            int selectors = random.nextInt(2) == 0 ? -1 : random.nextInt(16);
            is("fetch(" + a + ", " + selectors + ")", x.fetch(a, selectors), m.fetch(a, selectors));
        } else {
            int w = random.nextInt(20) == 0 ? random.nextInt(7) - 1 : random.nextInt(4);
            is("poll(" + w + ")", x.poll(w), m.poll(w));
        }
    }

    private void look() {
        int k = random.nextInt(10) == 0 ? random.nextInt(16) - 2 : random.nextInt(3);
        int what = random.nextInt(10) == 0 ? random.nextInt(9) - 2 : random.nextInt(5);
        is("svid(" + k + ", " + what + ")", x.svid(k, what), m.svid(k, what));
        is("key(" + k + ")", x.key(k), m.key(k));
        is("friends()", x.friends(), m.friends());
        int p = random.nextInt(80) - 1;
        is("written(" + k + ", " + p + ")", x.written(k, p), m.written(k, p));
    }

    /** A certificate of the latest response or a forged one, mostly changed a little, verified. */
    private void certificates() {
        int clock = m.tick(1);
        is("tick(1)", x.tick(1), clock);
        int start = Math.max(0, clock - random.nextInt(4) + 1);
        int[] bytes = Forge.certificate(random.nextInt() >>> 1 + random.nextInt(31), random.nextInt(6), start,
            start + random.nextInt(300), TEXTS[random.nextInt(TEXTS.length)]);
        if (m.svid(0, 0) >= 0 && random.nextBoolean()) {
            bytes = latestBytes();
        }
        int changes = random.nextInt(3);
        for (int i = 0; i < changes; i++) {
            int p = random.nextInt(bytes.length);
            int change = random.nextInt(4);
            bytes[p] = change == 0 ? random.nextInt(256) : change == 1 ? 0 : bytes[p] ^ 1 << random.nextInt(8);
        }
        int length = random.nextInt(5) == 0 ? random.nextInt(bytes.length + 3) : bytes.length;
        StringBuilder text = new StringBuilder();
        for (int p = 0; p < length; p++) {
            text.append((char) (p < bytes.length ? bytes[p] : random.nextInt(256)));
        }
        putAll(text.toString());
        is("verify()", x.verify(), m.verify());
    }

    private int[] latestBytes() {
        int[] bytes = new int[100];
        int length = 0;
        while (m.written(0, length) >= 0) {
            bytes[length] = m.written(0, length);
            length++;
        }
        return java.util.Arrays.copyOf(bytes, length);
    }
}
