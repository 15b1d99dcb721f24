/** Promises 1 (a new object), 17 (prepare), 18 (activate) and 19 (tick). */
public final class KeyTest {
    private static final Due due = new Due();
    private static final int MISSING = IdentityIssuer.MISSING;
    private static final int WRONG = IdentityIssuer.WRONG;
    private static final int FULL = IdentityIssuer.FULL;

    public static void main(String[] args) {
        nothingButKeyZero();
        lives();
        ticks();
        onePrepared();
        fourGood();
        forgotten();
        activated();
        oldKeysStay();
        manyKeys();
        due.end();
    }

    private static void nothingButKeyZero() {
        Issuer x = new Issuer(64);
        due.is("buffer", x.id(), -1);
        due.is("entries", x.remove(0), false);
        due.is("foreign bundles", x.foreign(0, false), false);
        due.is("agents", x.sync(0), MISSING);
        due.is("watchers", x.poll(0), MISSING);
        due.is("svid", x.svid(0, 0), MISSING);
        due.is("key", x.key(0), MISSING);
        due.is("friends", x.friends(), 0);
        due.is("written", x.written(0, 0), MISSING);
        due.is("prepared", x.activate(), false);
        due.is("the next key", x.prepare(), 1);
        due.is("clock", x.tick(1), 1);
        due.is("IDs", x.id("spiffe://a"), 0);
    }

    /** The last clock at which key 0 is good. */
    private static void life(int given, int want) {
        Issuer x = new Issuer(given);
        int[] bytes = Forge.certificate(1, 0, 0, 9999, "spiffe://o");
        for (int left = want - 1; left > 0; left -= 64) {
            x.tick(Math.min(64, left));
        }
        due.is("life " + given + ", at its last time", x.verify(bytes), 1);
        x.tick(1);
        due.is("life " + given + ", over", x.verify(bytes), IdentityIssuer.UNKNOWN);
    }

    private static void lives() {
        life(32, 32);
        life(33, 33);
        life(31, 32);
        life(0, 32);
        life(-5, 32);
        life(Integer.MIN_VALUE, 32);
        life(100, 100);
        life(255, 255);
        life(256, 256);
        life(257, 256);
        life(Integer.MAX_VALUE, 256);
    }

    private static void ticks() {
        Issuer x = new Issuer(64);
        for (int n : new int[] {0, -1, 65, Integer.MIN_VALUE, Integer.MAX_VALUE}) {
            due.is("tick(" + n + ")", x.tick(n), WRONG);
        }
        due.is("tick(1)", x.tick(1), 1);
        due.is("tick(64)", x.tick(64), 65);
        due.is("tick(65)", x.tick(65), WRONG);
        due.is("tick(2)", x.tick(2), 67);
    }

    private static void onePrepared() {
        Issuer x = new Issuer(32);
        due.is("prepare", x.prepare(), 1);
        due.is("one is there", x.prepare(), FULL);
        due.is("activate", x.activate(), true);
        due.is("none is prepared", x.activate(), false);
        due.is("prepare again", x.prepare(), 2);
        due.is("one is there", x.prepare(), FULL);
    }

    private static void fourGood() {
        Issuer x = new Issuer(32);
        for (int k = 1; k < 4; k++) {
            x.tick(1);
            due.is("key " + k, x.prepare(), k);
            due.is("activate " + k, x.activate(), true);
        }
        due.is("a fifth", x.prepare(), FULL);
        x.tick(28);
        due.is("at 31", x.prepare(), FULL);
        x.tick(1);
        due.is("at 32", x.prepare(), 4);
        due.is("activate 4", x.activate(), true);
        due.is("four again", x.prepare(), FULL);
        x.tick(2);
        due.is("two have ended", x.prepare(), 5);
        x.activate();
        due.is("room for one more", x.prepare(), 6);
    }

    private static void forgotten() {
        Issuer x = new Issuer(32);
        x.prepare();
        x.tick(31);
        due.is("still good", x.prepare(), FULL);
        x.tick(1);
        due.is("not good any more", x.activate(), false);
        due.is("another one", x.prepare(), 2);
        due.is("that one", x.activate(), true);
        due.is("key 1 is forgotten", x.activate(), false);
    }

    private static void activated() {
        Issuer x = Issuer.withIds(32, 2);
        x.entry(2, 1, 1, 64, 0);
        x.attest(1, 0);
        x.tick(10);
        x.prepare();
        x.sync(0);
        x.fetch(0, 1);
        due.is("prepared is not active", x.svid(0, 2), 0);
        x.tick(31);
        due.is("the last time of key 1", x.activate(), true);
        x.sync(0);
        x.fetch(0, 1);
        due.is("active", x.svid(0, 2), 1);
        due.is("till its end", x.svid(0, 4), 42);
        x.prepare();
        x.tick(1);
        due.is("activate", x.activate(), true);
        due.is("sync", x.sync(0), 1);
        x.fetch(0, 1);
        due.is("made at 41", x.svid(0, 4), 73);
    }

    private static void oldKeysStay() {
        Issuer x = Issuer.withIds(32, 2);
        x.entry(2, 1, 1, 64, 0);
        x.attest(1, 0);
        x.tick(8);
        x.prepare();
        x.activate();
        x.tick(8);
        x.prepare();
        x.activate();
        x.tick(8);
        x.prepare();
        x.sync(0);
        x.fetch(0, 1);
        for (int k = 0; k < 4; k++) {
            due.is("key(" + k + ")", x.key(k), k);
        }
        due.is("no fifth", x.key(4), MISSING);
        due.is("the active one", x.svid(0, 2), 2);
        x.tick(8);
        x.sync(0);
        x.fetch(0, 1);
        due.is("key 0 has ended", x.key(0), 1);
        due.is("three are left", x.key(3), MISSING);
    }

    private static void manyKeys() {
        Issuer x = Issuer.withIds(32, 2);
        x.entry(2, 1, 1, 64, 0);
        x.attest(1, 0);
        for (int k = 1; k < 60; k++) {
            x.tick(64);
            due.is("prepare", x.prepare(), k);
            due.is("activate", x.activate(), true);
            due.is("sync", x.sync(0), 1);
            x.fetch(0, 1);
            due.is("its key", x.svid(0, 2), k);
            due.is("its end", x.svid(0, 4), 64 * k + 32);
        }
    }
}
