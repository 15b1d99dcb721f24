/** The edges of clock and keys: terms, and promises 1 (a new object), 17 (prepare), 18 (activate) and 19 (tick). */
final class KeyEdges {
    private static final int MISSING = IdentityIssuer.MISSING;
    private static final int WRONG = IdentityIssuer.WRONG;
    private static final int FULL = IdentityIssuer.FULL;
    private static final int EXPIRED = IdentityIssuer.EXPIRED;
    private static final int UNKNOWN = IdentityIssuer.UNKNOWN;
    private static final int FORGED = IdentityIssuer.FORGED;
    private static final String ID = "spiffe://o/2";

    private final Book book;
    private Sentence s;

    KeyEdges(Book book) {
        this.book = book;
    }

    void run() {
        clock();
        keyNumbers();
        goodness();
        keyZero();
        preparedThenOld();
        bundle();
        kindsOfKeys();
        newObject();
        life();
        prepared();
        prepareFull();
        forgotten();
        activate();
        tick();
    }

    /** Agent 0 is entitled to entry 0. */
    private static Issuer issuer(int life) {
        Issuer x = Issuer.withIds(life, 2);
        x.entry(2, 1, 1, 64, 0);
        x.attest(1, 0);
        return x;
    }

    private static int verify(Issuer x, int key) {
        return x.verify(Forge.certificate(5, key, 0, 99999, ID));
    }

    private void clock() {
        s = book.sentence("Terms", "The CLOCK is 0 at first.");
        s.is("a certificate from 0 on", new Issuer(64).verify(Forge.certificate(5, 0, 0, 1, ID)), 5);
        s.is("a certificate from 1 on", new Issuer(64).verify(Forge.certificate(5, 0, 1, 2, ID)), EXPIRED);
        s.is("a certificate till 0", new Issuer(64).verify(Forge.certificate(5, 0, 0, 0, ID)), EXPIRED);
        s.is("one more", new Issuer(64).tick(1), 1);
    }

    private void keyNumbers() {
        s = book.sentence("Terms", "KEYS are numbered 0, 1, .. in the order in which they are made.");
        Issuer x = new Issuer(32);
        s.is("behind key 0", x.prepare(), 1);
        s.is("refused", x.prepare(), FULL);
        x.activate();
        s.is("a refused one takes no number", x.prepare(), 2);
        x.tick(32);
        s.is("nor does a forgotten one give its number back", x.prepare(), 3);
    }

    private void goodness() {
        s = book.sentence("Terms", "A key made at a time T is GOOD while the clock is below T + LIFE.");
        Issuer x = new Issuer(40);
        x.tick(7);
        x.prepare();
        x.tick(32);
        s.is("key 0 at 39", verify(x, 0), 5);
        x.tick(1);
        s.is("key 0 at 40", verify(x, 0), UNKNOWN);
        x.tick(6);
        s.is("key 1 at 46", verify(x, 1), 5);
        x.tick(1);
        s.is("key 1 at 47", verify(x, 1), UNKNOWN);
        s.is("it is over for good", x.activate(), false);
    }

    private void keyZero() {
        s = book.sentence("Terms", "Key 0 is made at the beginning and is ACTIVE.");
        Issuer x = issuer(32);
        s.is("a certificate at once", x.sync(0), 1);
        x.fetch(0, 1);
        s.is("its key", x.svid(0, 2), 0);
        s.is("made at 0, it ends at", x.svid(0, 4), 32);
        x.tick(31);
        s.is("at 31", x.sync(0), 1);
        x.tick(1);
        s.is("at 32", x.sync(0), EXPIRED);
    }

    private void preparedThenOld() {
        s = book.sentence("Terms", "A key that is prepared can be made active later; the one before is OLD then.");
        Issuer x = issuer(64);
        x.prepare();
        x.sync(0);
        x.fetch(0, 1);
        s.is("prepared only", x.svid(0, 2), 0);
        x.tick(32);
        s.is("later", x.activate(), true);
        x.sync(0);
        x.fetch(0, 1);
        s.is("active", x.svid(0, 2), 1);
        s.is("the old one cannot be made active again", x.activate(), false);
        s.is("the old one is in the bundle", x.key(0), 0);
    }

    private void bundle() {
        s = book.sentence("Terms", "The BUNDLE is all keys that are good (prepared and old ones, too).");
        Issuer x = issuer(32);
        for (int k = 1; k < 4; k++) {
            x.tick(1);
            x.prepare();
            if (k < 3) {
                x.activate();
            }
        }
        x.sync(0);
        x.fetch(0, 1);
        for (int k = 0; k < 4; k++) {
            s.is("key " + k + " of old, old, active, prepared", x.key(k), k);
            s.is("verify by key " + k, verify(x, k), 5);
        }
        s.is("no fifth", x.key(4), MISSING);
        s.is("verify by key 4", verify(x, 4), UNKNOWN);
        x.tick(28);
        x.sync(0);
        x.fetch(0, 1);
        s.is("at 31 key 0 is in it", x.key(0), 0);
        x.tick(1);
        x.sync(0);
        x.fetch(0, 1);
        s.is("at 32 it begins with", x.key(0), 1);
        s.is("and ends with", x.key(2), 3);
        s.is("three in all", x.key(3), MISSING);
        x.tick(2);
        s.is("at 34 the active one is not good, the prepared one is", verify(x, 3), 5);
        s.is("the active one", verify(x, 2), UNKNOWN);
    }

    private void kindsOfKeys() {
        s = book.sentence("Terms", "Key k has a MODULUS N: 1071514531, 1070271221, 1069289951 or 1067328611, for k modulo "
            + "4 = 0, 1, 2, 3 (the products 32749 * 32719, 32717 * 32713, 32707 * 32693, 32687 * 32653), and a secret D: "
            + "the least number above 0 with 65537 * D = 1 modulo (p - 1) * (q - 1), for the two factors p and q.");
        Issuer x = issuer(32);
        long[] moduli = {1071514531L, 1070271221L, 1069289951L, 1067328611L};
        for (int k = 0; k < 9; k++) {
            s.is("modulus " + k, Forge.modulus(k), moduli[k % 4]);
            x.sync(0);
            x.fetch(0, 1);
            int[] want = Forge.certificate(k + 1, k, 32 * k, 32 * k + 32, ID);
            boolean same = true;
            for (int p = want.length - 4; p < want.length; p++) {
                same &= x.written(0, p) == want[p];
            }
            s.is("the signature by key " + k, same, true);
            s.is("it is right", x.verify(want), k + 1);
            int[] body = Forge.body(Forge.number(1), Forge.number(k), Forge.number(0), Forge.number(999), ID);
            s.is("by the kind of the next", x.verify(Forge.around(body, Forge.number(Forge.sign(body, k + 1)))), FORGED);
            s.is("by the same kind", x.verify(Forge.around(body, Forge.number(Forge.sign(body, k + 4)))), 1);
            x.tick(32);
            x.prepare();
            x.activate();
        }
    }

    private void newObject() {
        s = book.sentence("Promise 1: A new object", "Nothing but key 0.");
        Issuer x = new Issuer(64);
        s.is("the buffer", x.id(), -1);
        s.is("the buffer, too", x.verify(), -1);
        s.is("IDs", x.attest(0, 0), MISSING);
        s.is("IDs for entries", x.entry(0, 0, 1, 1, 0), MISSING);
        s.is("entries", x.remove(0), false);
        s.is("agents", x.sync(0), MISSING);
        s.is("agents for workloads", x.fetch(0, 1), MISSING);
        s.is("agents for watchers", x.watch(0, 1), MISSING);
        s.is("watchers", x.poll(0), MISSING);
        s.is("a response's certificates", x.svid(0, 0), MISSING);
        s.is("a response's keys", x.key(0), MISSING);
        s.is("a response's foreign bundles", x.friends(), 0);
        s.is("a response's bytes", x.written(0, 0), MISSING);
        s.is("a prepared key", x.activate(), false);
        for (int k = 0; k < 4; k++) {
            s.is("foreign bundle " + k, x.foreign(k, false), false);
        }
        s.is("key 0", verify(x, 0), 5);
        s.is("key 1", verify(x, 1), UNKNOWN);
    }

    private void life(int given, int life) {
        Issuer x = new Issuer(given);
        x.pass(life - 1);
        s.is("life " + given + ", key 0 before " + life, verify(x, 0), 5);
        x.tick(1);
        s.is("life " + given + ", key 0 at " + life, verify(x, 0), UNKNOWN);
    }

    private void life() {
        s = book.sentence("Promise 1: A new object", "LIFE is life, but 32 if that is below 32, 256 if it is above 256.");
        life(32, 32);
        life(33, 33);
        life(31, 32);
        life(0, 32);
        life(-1, 32);
        life(Integer.MIN_VALUE, 32);
        life(255, 255);
        life(256, 256);
        life(257, 256);
        life(Integer.MAX_VALUE, 256);
    }

    private void prepared() {
        s = book.sentence("Promise 17: prepare", "A key is made and prepared; answers its number.");
        Issuer x = issuer(64);
        x.tick(10);
        s.is("prepare", x.prepare(), 1);
        s.is("it is in the bundle", verify(x, 1), 5);
        x.sync(0);
        x.fetch(0, 1);
        s.is("it is not active", x.svid(0, 2), 0);
        x.tick(63);
        s.is("made at 10, good at 73", verify(x, 1), 5);
        x.tick(1);
        s.is("not at 74", verify(x, 1), UNKNOWN);
    }

    private void prepareFull() {
        s = book.sentence("Promise 17: prepare", "FULL when a prepared one is there that is good, or there are 4 good ones.");
        Issuer x = new Issuer(32);
        x.prepare();
        x.tick(31);
        s.is("the prepared one is good at 31", x.prepare(), FULL);
        x.tick(1);
        s.is("not at 32", x.prepare(), 2);
        Issuer y = new Issuer(32);
        for (int k = 1; k < 4; k++) {
            y.tick(1);
            s.is("the good key number " + (k + 1), y.prepare(), k);
            y.activate();
        }
        s.is("a fifth", y.prepare(), FULL);
        y.tick(28);
        s.is("a fifth at 31", y.prepare(), FULL);
        y.tick(1);
        s.is("a fourth at 32", y.prepare(), 4);
        s.is("one is prepared", y.prepare(), FULL);
        y.activate();
        s.is("none is, but four are good", y.prepare(), FULL);
        y.tick(1);
        s.is("three are good", y.prepare(), 5);
        s.refused("prepare with a prepared one", Situations::busy, Issuer::prepare, FULL);
        s.refused("prepare with four good ones", Situations::fullAndBusy, Issuer::prepare, FULL);
    }

    private void forgotten() {
        s = book.sentence("Promise 17: prepare", "(A prepared one that is not good any more is forgotten.)");
        Issuer x = issuer(32);
        x.prepare();
        x.tick(32);
        s.is("key 1 is over", x.activate(), false);
        s.is("another one", x.prepare(), 2);
        s.is("it can be activated", x.activate(), true);
        s.is("key 1 cannot", x.activate(), false);
        x.sync(0);
        x.fetch(0, 1);
        s.is("the active one", x.svid(0, 2), 2);
        Issuer y = new Issuer(32);
        for (int k = 1; k < 12; k++) {
            s.is("never activated", y.prepare(), k);
            y.tick(32);
        }
        s.is("key 0 is over long ago", verify(y, 0), UNKNOWN);
        s.is("so is key 8, of the same kind", verify(y, 8), UNKNOWN);
        s.is("all are over", verify(y, 11), UNKNOWN);
        s.is("the next", y.prepare(), 12);
        s.is("is good", verify(y, 12), 5);
    }

    private static Issuer preparedIsOver() {
        Issuer x = issuer(32);
        x.sync(0);
        x.fetch(0, 1);
        x.tick(1);
        x.prepare();
        x.putAll("spiffe://o/n");
        x.tick(32);
        return x;
    }

    private void activate() {
        s = book.sentence("Promise 18: activate", "The prepared key becomes active; false when there is none that is good.");
        s.is("none is prepared", new Issuer(64).activate(), false);
        Issuer x = new Issuer(32);
        x.prepare();
        s.is("at once", x.activate(), true);
        s.is("only once", x.activate(), false);
        Issuer y = issuer(32);
        y.tick(1);
        y.prepare();
        y.tick(31);
        s.is("at its last good time", y.activate(), true);
        s.is("it issues", y.sync(0), 1);
        y.fetch(0, 1);
        s.is("the certificate's key", y.svid(0, 2), 1);
        s.is("its end", y.svid(0, 4), 33);
        Issuer z = issuer(32);
        z.tick(1);
        z.prepare();
        z.tick(32);
        s.is("when it is not good any more", z.activate(), false);
        s.is("it does not issue", z.sync(0), EXPIRED);
        s.refused("activate with none that is good", KeyEdges::preparedIsOver, Issuer::activate, false);
        s.refused("activate with none prepared", Situations::fullAndBusy, Issuer::activate, false);
    }

    private void tick() {
        s = book.sentence("Promise 19: tick", "The clock goes on by n (1 .. 64); answers it, WRONG when n is not as said.");
        Issuer x = new Issuer(64);
        s.is("tick(1)", x.tick(1), 1);
        s.is("tick(64)", x.tick(64), 65);
        s.is("tick(63)", x.tick(63), 128);
        for (int n : new int[] {0, 65, -1, 128, Integer.MIN_VALUE, Integer.MAX_VALUE}) {
            s.is("tick(" + n + ")", x.tick(n), WRONG);
            s.refused("tick(" + n + ")", Situations::busy, y -> y.tick(n), WRONG);
        }
        s.is("tick(1) behind them", x.tick(1), 129);
    }
}
