import java.util.Arrays;

/** What it is: each of the things that the document begins with, from the first call to the last. */
final class StoryEdges {
    private static final int DENIED = IdentityIssuer.DENIED;
    private static final int UNKNOWN = IdentityIssuer.UNKNOWN;
    private static final int FORGED = IdentityIssuer.FORGED;

    private final Book book;
    private Sentence s;

    StoryEdges(Book book) {
        this.book = book;
    }

    void run() {
        serverAndAgents();
        names();
        entries();
        chains();
        certificates();
        keys();
        watchers();
        calls();
        dearCalls();
    }

    private Sentence sentence(String words) {
        return book.sentence("What it is", words);
    }

    /** Entry 0 gives ID 2 to workloads with selector 0 of agent 0, which has ID 1 and has not synced. */
    private static Issuer issuer(int ttl) {
        Issuer x = Issuer.withIds(64, 4);
        x.entry(2, 1, 1, ttl, 0);
        x.attest(1, 0);
        return x;
    }

    private void same(String what, int[] got, int[] want) {
        s.is(what, Arrays.toString(got), Arrays.toString(want));
    }

    private void serverAndAgents() {
        s = sentence("A server that issues identities and the agents that hand them to workloads:");
        Issuer x = issuer(20);
        s.is("a workload before the server has issued anything", x.fetch(0, 1), DENIED);
        s.is("the server issues", x.sync(0), 1);
        s.is("the agent hands out", x.fetch(0, 1), 1);
        s.is("a workload that is another one", x.fetch(0, 2), DENIED);
    }

    private void names() {
        s = sentence("names are read strictly,");
        s.is("a name", new Issuer(64).id("spiffe://o/a"), 0);
        String[] others = {"Spiffe://o/a", "spiffe:/o/a", "spiffe://O/a", "spiffe://o/a/", "spiffe://o//a", "spiffe://o/./a",
            "spiffe://o/a b", "spiffe://o/a?b", "spiffe://o/%41", "spiffe://o:80/a", " spiffe://o/a", "spiffe://o/a\n"};
        int[] places = {0, 8, 9, 13, 11, 11, 12, 12, 11, 10, 0, 12};
        for (int i = 0; i < others.length; i++) {
            s.is(others[i], new Issuer(64).id(others[i]), -1 - places[i]);
        }
    }

    private void entries() {
        s = sentence("entries say who may have which name,");
        Issuer x = issuer(20);
        x.entry(3, 1, 2, 20, 0);
        s.is("two names", x.sync(0), 2);
        s.is("for one workload", x.fetch(0, 1), 1);
        same("the first name", x.written(0), Forge.certificate(1, 0, 0, 20, "spiffe://o/2"));
        s.is("for another", x.fetch(0, 2), 1);
        same("the second name", x.written(0), Forge.certificate(2, 0, 0, 20, "spiffe://o/3"));
        s.is("for one that is both", x.fetch(0, 3), 2);
        s.is("for one that is neither", x.fetch(0, 4), DENIED);
    }

    private void chains() {
        s = sentence("agents get what they are entitled to along chains of parents,");
        Issuer x = issuer(20);
        x.entry(3, 2, 1, 20, 0);
        x.entry(4, 3, 1, 20, 0);
        x.attest(3, 0);
        s.is("from the chain's head", x.sync(0), 3);
        s.is("from its middle", x.sync(1), 1);
        x.fetch(1, 1);
        s.is("what hangs below the middle", x.svid(0, 0), 2);
        x.remove(1);
        x.tick(10);
        s.is("from the head of the broken chain", x.sync(0), 1);
        s.is("from behind the break", x.sync(1), 1);
    }

    private void certificates() {
        s = sentence("certificates are written and signed,");
        Issuer x = issuer(20);
        x.tick(3);
        x.sync(0);
        x.fetch(0, 1);
        int[] bytes = x.written(0);
        same("its bytes", bytes, Forge.certificate(1, 0, 3, 23, "spiffe://o/2"));
        s.is("it is verified", x.verify(bytes), 1);
        int[] changed = bytes.clone();
        changed[6] = 2;
        s.is("with another serial", x.verify(changed), FORGED);
        changed = bytes.clone();
        changed[changed.length - 1] ^= 1;
        s.is("with another signature", x.verify(changed), FORGED);
    }

    private void keys() {
        s = sentence("keys are replaced while old certificates still hold,");
        Issuer x = issuer(64);
        x.sync(0);
        x.fetch(0, 1);
        int[] old = x.written(0);
        x.tick(31);
        x.prepare();
        x.activate();
        s.is("the old certificate under the new key", x.verify(old), 1);
        s.is("it is kept before half of its time", x.sync(0), 0);
        x.tick(1);
        s.is("and replaced from then on", x.sync(0), 1);
        x.fetch(0, 1);
        s.is("by the new key", x.svid(0, 2), 1);
        s.is("with the old one in the bundle", x.key(0), 0);
        s.is("beside the new one", x.key(1), 1);
        x.tick(31);
        s.is("the old certificate to its end", x.verify(old), 1);
        x.tick(1);
        s.is("and not beyond", x.verify(old), UNKNOWN);
    }

    private void watchers() {
        s = sentence("and those who watch are told when what they hold has changed.");
        Issuer x = issuer(20);
        x.watch(0, 1);
        x.watch(0, 2);
        s.is("nothing yet", x.poll(0), DENIED);
        x.poll(1);
        x.sync(0);
        s.is("a certificate", x.poll(0), 1);
        s.is("once", x.poll(0), 0);
        s.is("another workload's watcher", x.poll(1), 0);
        x.tick(9);
        x.sync(0);
        s.is("the same certificate", x.poll(0), 0);
        x.tick(1);
        x.sync(0);
        s.is("a new one", x.poll(0), 1);
        x.tick(20);
        s.is("its end", x.poll(0), DENIED);
        s.is("told once, too", x.poll(0), 0);
    }

    private void calls() {
        s = sentence("An object is used for at most 512 calls after it has been made; what later calls answer is free.");
        Issuer x = new Issuer(256);
        for (int call = 1; call < 512; call++) {
            x.tick(64);
        }
        s.is("the 512th call", x.tick(64), 512 * 64);
        s.is("calls", x.calls(), 512);
    }

    /** No other calls make as much as a sync that issues twelve certificates. */
    private void dearCalls() {
        s = sentence("An object is used for at most 512 calls");
        Issuer x = Issuer.withIds(256, 1);
        for (int e = 0; e < 12; e++) {
            x.entry(1, 1, 1, 1, 0);
        }
        int syncs = 0;
        while (x.calls() < 508) {
            x.attest(1, 0);
            s.is("sync " + syncs, x.sync(0), 12);
            syncs++;
        }
        x.prepare();
        x.fetch(0, 1);
        s.is("a serial", x.svid(0, 1), 12 * syncs - 11);
        s.is("the last serial", x.svid(11, 1), 12 * syncs);
        s.is("calls", x.calls(), 512);
    }
}
