import java.util.ArrayList;
import java.util.List;
import java.util.function.Function;
import java.util.function.Supplier;

/** What holds of all calls: a refused one changes nothing, two use the buffer, and what the constants say. */
final class RefusalEdges {
    private static final int MISSING = IdentityIssuer.MISSING;
    private static final int WRONG = IdentityIssuer.WRONG;
    private static final int FULL = IdentityIssuer.FULL;
    private static final int DENIED = IdentityIssuer.DENIED;
    private static final int EXPIRED = IdentityIssuer.EXPIRED;
    private static final int UNKNOWN = IdentityIssuer.UNKNOWN;
    private static final int FORGED = IdentityIssuer.FORGED;
    private static final int[] NUMBERS = {Integer.MIN_VALUE, -2, -1, 13, 60, 61, 65536, Integer.MAX_VALUE};

    private final Book book;
    private Sentence s;

    RefusalEdges(Book book) {
        this.book = book;
    }

    void run() {
        refusedTogether();
        buffersUsedUp();
        buffersLeftAlone();
        constants();
    }

    private void refusedTogether() {
        s = book.sentence("Terms", "A call that is refused changes nothing,");
        List<Supplier<Issuer>> situations = new ArrayList<>();
        situations.add(() -> new Issuer(64));
        situations.add(Situations::busy);
        situations.add(Situations::fullAndBusy);
        situations.add(Situations::sixtyEntries);
        situations.add(Situations::expired);
        for (int i = 0; i < situations.size(); i++) {
            s.refused("many refused calls in situation " + i, situations.get(i), RefusalEdges::allRefused, true);
        }
    }

    /** Whether numbers that are never there or never right are refused by all calls that take any. */
    private static boolean allRefused(Issuer x) {
        boolean refused = true;
        for (int n : NUMBERS) {
            refused &= !x.put(n, n) && x.entry(n, 0, 1, 1, 0) == MISSING && !x.remove(n) && !x.foreign(n, true);
            refused &= x.attest(n, 0) == MISSING && x.sync(n) == MISSING && x.fetch(n, -1) == MISSING;
            refused &= x.watch(n, -1) == MISSING && x.poll(n) == MISSING && x.svid(n, 0) == MISSING;
            refused &= x.key(n) == MISSING && x.written(n, 0) == MISSING;
        }
        return refused && x.tick(0) == WRONG && x.tick(65) == WRONG;
    }

    private void usedUp(String call, Supplier<Issuer> situation, Function<Issuer, Object> used, int want) {
        Issuer x = situation.get();
        s.is(call, used.apply(x), want);
        int room = 0;
        while (room <= 100 && x.put('x', 1)) {
            room++;
        }
        s.is("room behind " + call, room, 100);
        Issuer y = situation.get();
        used.apply(y);
        s.is("an empty text behind " + call, y.id(), -1);
        Issuer z = situation.get();
        used.apply(z);
        s.is("no bytes behind " + call, z.verify(), -1);
    }

    private void buffersUsedUp() {
        s = book.sentence("Terms", "but the buffer is empty after each call that uses it (id() and verify(), whatever they "
            + "answer).");
        int[] right = Forge.certificate(9, 0, 0, 60, "spiffe://o/2");
        int[] forged = right.clone();
        forged[6]++;
        usedUp("id of a new ID", Situations::idle, x -> x.id("spiffe://o/y"), 8);
        usedUp("id of an old ID", Situations::idle, x -> x.id("spiffe://o/a"), 2);
        usedUp("id with an error at the front", Situations::idle, x -> x.id("xpiffe://o/y"), -1);
        usedUp("id with an error at the end", Situations::idle, x -> x.id("spiffe://o/y/"), -1 - 13);
        usedUp("id of a full buffer", Situations::idle, x -> x.id("spiffe://o/" + "y".repeat(89)), -1 - 40);
        usedUp("id of an empty buffer", Situations::idle, Issuer::id, -1);
        usedUp("id of a 13th ID", Situations::full, x -> x.id("spiffe://o/y"), FULL);
        usedUp("verify of a certificate", Situations::idle, x -> x.verify(right), 9);
        usedUp("verify with an error at the front", Situations::idle, x -> x.verify("x".chars().toArray()), -1);
        usedUp("verify with a byte too much", Situations::idle, x -> x.verify(Forge.join(right, new int[1])),
            -1 - right.length);
        usedUp("verify of an empty buffer", Situations::idle, Issuer::verify, -1);
        usedUp("verify by an unknown key", Situations::idle, x -> x.verify(Forge.certificate(9, 3, 0, 60, "spiffe://o")),
            UNKNOWN);
        usedUp("verify of a forged one", Situations::idle, x -> x.verify(forged), FORGED);
        usedUp("verify of an expired one", Situations::idle, x -> x.verify(Forge.certificate(9, 0, 0, 5, "spiffe://o")),
            EXPIRED);
    }

    private void buffersLeftAlone() {
        s = book.sentence("Terms", "(id() and verify(), whatever they answer).");
        Issuer x = Situations.idle();
        x.putAll("spiffe://o/ne");
        s.is("entry", x.entry(3, 2, 1, 5, 0), 5);
        s.is("remove", x.remove(5), true);
        s.is("foreign", x.foreign(3, true), true);
        s.is("attest", x.attest(6, 0), 2);
        s.is("sync", x.sync(2), 3);
        s.is("fetch", x.fetch(2, 1), 2);
        s.is("watch", x.watch(2, 1), 2);
        s.is("poll", x.poll(2), 2);
        s.is("svid", x.svid(1, 0), 3);
        s.is("key", x.key(0), 0);
        s.is("friends", x.friends(), 15);
        s.is("written", x.written(0, 0), 48);
        s.is("activate", x.activate(), true);
        s.is("prepare", x.prepare(), 3);
        s.is("tick", x.tick(1), 6);
        x.put('w', 1);
        s.is("no other call uses the buffer", x.id(), 8);
        s.is("it held", x.id("spiffe://o/new"), 8);
    }

    private void constants() {
        s = book.sentence("Terms", "The constants: `MISSING = -1001`: What is named is not there.");
        s.is("an agent", new Issuer(64).sync(0), -1001);
        s = book.sentence("Terms", "`WRONG = -1002`: A number is not as said.");
        s.is("ticks", new Issuer(64).tick(65), -1002);
        s = book.sentence("Terms", "`FULL = -1003`: There is no room.");
        s.is("a fifth watcher", Situations.full().watch(0, 0), -1003);
        s = book.sentence("Terms", "`DENIED = -1004`: No certificate.");
        s.is("a workload without selectors", Situations.busy().fetch(0, 0), -1004);
        s = book.sentence("Terms", "`EXPIRED = -1005`: The key is not good any more, or the certificate's time is not now.");
        s.is("the key", Situations.expired().sync(0), -1005);
        s.is("the certificate", new Issuer(64).verify(Forge.certificate(1, 0, 1, 9, "spiffe://o")), -1005);
        s = book.sentence("Terms", "`UNKNOWN = -1006`: The key is not in the bundle.");
        s.is("key 1", new Issuer(64).verify(Forge.certificate(1, 1, 0, 9, "spiffe://o")), -1006);
        s = book.sentence("Terms", "`FORGED = -1007`: The signature is not right.");
        int[] body = Forge.body(Forge.number(1), Forge.number(0), Forge.number(0), Forge.number(9), "spiffe://o");
        s.is("signature 0", new Issuer(64).verify(Forge.around(body, Forge.number(0))), -1007);
        int[] all = {MISSING, WRONG, FULL, DENIED, EXPIRED, UNKNOWN, FORGED};
        for (int i = 0; i < all.length; i++) {
            s.is("constant " + i, all[i], -1001 - i);
        }
    }
}
