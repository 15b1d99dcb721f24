/** The edges of responses: terms, and promises 9 (fetch) to 14 (friends). */
final class ResponseEdges {
    private static final int MISSING = IdentityIssuer.MISSING;
    private static final int FULL = IdentityIssuer.FULL;
    private static final int DENIED = IdentityIssuer.DENIED;

    private final Book book;
    private Sentence s;

    ResponseEdges(Book book) {
        this.book = book;
    }

    void run() {
        certificates();
        asTheyWere();
        keptKeys();
        keptForeign();
        denied();
        fetch();
        watch();
        pollLike();
        pollOneDifference();
        pollOther();
        pollMissing();
        svid();
        key();
        friends();
    }

    /** Agent 0 keeps entries 0 (selectors 1, ttl 10, friends 1), 1 (2, 20, 2) and 2 (6, 30, 4); all bundles are there. */
    private static Issuer synced() {
        Issuer x = Issuer.withIds(64, 4);
        x.entry(2, 1, 1, 10, 1);
        x.entry(3, 1, 2, 20, 2);
        x.entry(4, 3, 6, 30, 4);
        x.attest(1, 0);
        for (int k = 0; k < 4; k++) {
            x.foreign(k, true);
        }
        x.sync(0);
        return x;
    }

    private void nothing(String when, Issuer x) {
        s.is("svid(0, 0) " + when, x.svid(0, 0), MISSING);
        s.is("key(0) " + when, x.key(0), MISSING);
        s.is("written(0, 0) " + when, x.written(0, 0), MISSING);
        s.is("friends() " + when, x.friends(), 0);
    }

    private void certificates() {
        s = book.sentence("Terms", "The RESPONSE of an agent to a workload with selectors S: the certificates that it keeps "
            + "of entries (as they were when it synced) whose selectors are all in S and whose end is above the clock, "
            + "by the numbers of the entries;");
        Issuer x = synced();
        s.is("no selectors", x.fetch(0, 0), DENIED);
        s.is("one of two", x.fetch(0, 4), DENIED);
        s.is("the other one", x.fetch(0, 2), 1);
        s.is("its entry", x.svid(0, 0), 1);
        s.is("both", x.fetch(0, 6), 2);
        s.is("all but them", x.fetch(0, 65529), 1);
        s.is("all there are", x.fetch(0, 65535), 3);
        for (int k = 0; k < 3; k++) {
            s.is("by the numbers", x.svid(k, 0), k);
        }
        x.tick(9);
        s.is("below the end of the first", x.fetch(0, 7), 3);
        x.tick(1);
        s.is("at it", x.fetch(0, 7), 2);
        s.is("the first of them", x.svid(0, 0), 1);
        x.tick(19);
        s.is("below the end of the last", x.fetch(0, 7), 1);
        x.tick(1);
        s.is("at it", x.fetch(0, 7), DENIED);
    }

    private void asTheyWere() {
        s = book.sentence("Terms", "(as they were when it synced)");
        Issuer x = synced();
        x.remove(0);
        x.remove(1);
        x.entry(2, 1, 1, 60, 8);
        s.is("entries that are gone, none that is new", x.fetch(0, 7), 3);
        s.is("the friends of those that are gone", x.friends(), 7);
        x.sync(0);
        s.is("behind the next sync", x.fetch(0, 7), 1);
        s.is("the new entry", x.svid(0, 0), 3);
        s.is("its friends", x.friends(), 8);
    }

    private void keptKeys() {
        s = book.sentence("Terms", "the keys that it keeps (good or not any more);");
        Issuer x = Issuer.withIds(32, 2);
        x.entry(2, 1, 1, 64, 0);
        x.attest(1, 0);
        x.tick(1);
        x.prepare();
        x.activate();
        x.sync(0);
        x.tick(30);
        x.fetch(0, 1);
        s.is("at 31 key 0 is good", x.key(0), 0);
        x.tick(1);
        s.is("at 32", x.fetch(0, 1), 1);
        s.is("key 0 is not good, but kept", x.key(0), 0);
        s.is("key 1", x.key(1), 1);
        x.sync(0);
        x.fetch(0, 1);
        s.is("not behind the next sync", x.key(0), 1);
        s.is("key 1 alone", x.key(1), MISSING);
    }

    private void keptForeign() {
        s = book.sentence("Terms", "and those foreign bundles that it keeps and that are among the friends of one of these "
            + "entries.");
        Issuer x = synced();
        x.fetch(0, 7);
        s.is("bundle 3 is no one's friend", x.friends(), 7);
        x.fetch(0, 6);
        s.is("of entries 1 and 2", x.friends(), 6);
        x.foreign(1, false);
        x.fetch(0, 6);
        s.is("it still keeps bundle 1", x.friends(), 6);
        x.sync(0);
        x.fetch(0, 6);
        s.is("a friend that it does not keep", x.friends(), 4);
        x.tick(10);
        x.fetch(0, 7);
        s.is("a certificate that has ended has no friends", x.friends(), 4);
    }

    private void denied() {
        s = book.sentence("Terms", "With no certificate it is DENIED (and has no keys and no foreign bundles).");
        Issuer x = synced();
        s.is("one certificate", x.fetch(0, 1), 1);
        s.is("its key", x.key(0), 0);
        s.is("its friend", x.friends(), 1);
        s.is("no certificate", x.fetch(0, 4), DENIED);
        nothing("when denied", x);
    }

    private void fetch() {
        s = book.sentence("Promise 9: fetch", "The response of agent a to a workload with these selectors becomes the LATEST "
            + "one. Answers how many certificates it has, or DENIED; MISSING when there is no such agent (the latest "
            + "response stays).");
        Issuer x = synced();
        s.is("three", x.fetch(0, 7), 3);
        s.is("the third", x.svid(2, 0), 2);
        s.is("one", x.fetch(0, 1), 1);
        s.is("no second now", x.svid(1, 0), MISSING);
        s.is("none", x.fetch(0, 8), DENIED);
        nothing("behind it", x);
        s.is("all bits of a word", x.fetch(0, -1), 3);
        s.is("bit 16 is no selector", x.fetch(0, 65536 + 1), 1);
        s.is("the highest bit is none", x.fetch(0, Integer.MIN_VALUE), DENIED);
        for (int a : new int[] {2, -1, 3, Integer.MIN_VALUE, Integer.MAX_VALUE}) {
            s.refused("agent " + a, Situations::busy, y -> y.fetch(a, 7), MISSING);
        }
        s.refused("agent 3 of three", Situations::fullAndBusy, y -> y.fetch(3, 7), MISSING);
        s.is("agent 2 of three", Situations.full().fetch(2, -1) > 0, true);
        Issuer y = Issuer.withIds(64, 2);
        for (int e = 0; e < 12; e++) {
            y.entry(2, 1, 1, 10, 0);
        }
        y.attest(1, 0);
        s.is("before the first sync", y.fetch(0, 1), DENIED);
        y.sync(0);
        s.is("twelve", y.fetch(0, 1), 12);
        s.is("the twelfth", y.svid(11, 0), 11);
    }

    private void watch() {
        s = book.sentence("Promise 10: watch", "Agent a is watched for a workload with these selectors, by a watcher that has "
            + "got no response yet. Answers its number (from 0 on); MISSING when there is no such agent; FULL when there "
            + "are 4 watchers.");
        Issuer x = synced();
        for (int w = 0; w < 4; w++) {
            s.is("watcher " + w, x.watch(0, w), w);
        }
        s.is("a fifth", x.watch(0, 7), FULL);
        s.is("watcher 0 has got none yet", x.poll(0), DENIED);
        s.is("watcher 3 has got none yet", x.poll(3), 2);
        s.is("watcher 4", x.poll(4), MISSING);
        s.refused("a fifth watcher", Situations::fullAndBusy, y -> y.watch(0, 7), FULL);
        s.refused("a fifth, of no agent", Situations::fullAndBusy, y -> y.watch(3, 7), MISSING);
        for (int a : new int[] {2, -1, Integer.MIN_VALUE, Integer.MAX_VALUE}) {
            s.refused("agent " + a, Situations::busy, y -> y.watch(a, 7), MISSING);
        }
        s.is("agent 1 of two", Situations.busy().watch(1, 7), 2);
        Issuer y = synced();
        y.fetch(0, 1);
        y.watch(0, 7);
        s.is("the latest response stays", y.svid(1, 0), MISSING);
    }

    private void pollLike() {
        s = book.sentence("Promise 11: poll", "The response to watcher w as it is now: 0 when it is like the one that w got "
            + "last (the same certificates, keys and foreign bundles; both denied);");
        Issuer x = synced();
        x.watch(0, 3);
        x.poll(0);
        s.is("nothing happened", x.poll(0), 0);
        x.fetch(0, 6);
        s.is("a fetch is not for the watcher", x.poll(0), 0);
        s.is("the latest response stays", x.svid(1, 0), 2);
        x.tick(4);
        x.sync(0);
        s.is("time goes on", x.poll(0), 0);
        x.prepare();
        s.is("a key that the agent has not heard of", x.poll(0), 0);
        x.sync(0);
        s.is("a key more", x.poll(0), 2);
        x.activate();
        x.sync(0);
        s.is("the same keys, another active", x.poll(0), 0);
        x.foreign(3, false);
        x.foreign(2, false);
        x.sync(0);
        s.is("bundles of others", x.poll(0), 0);
        x.foreign(1, false);
        s.is("one of its own, not heard of", x.poll(0), 0);
        x.sync(0);
        s.is("a foreign bundle less", x.poll(0), 2);
        x.foreign(1, true);
        x.sync(0);
        s.is("as it was before the last", x.poll(0), 2);
        s.is("friends", x.friends(), 3);
        x.remove(2);
        x.sync(0);
        s.is("a certificate of others", x.poll(0), 0);
        x.tick(5);
        s.is("at 9", x.poll(0), 0);
        x.tick(1);
        s.is("at 10 one has ended", x.poll(0), 1);
        x.sync(0);
        s.is("and is there again, the other one renewed", x.poll(0), 2);
        x.attest(1, 0);
        s.is("denied", x.poll(0), DENIED);
        x.prepare();
        x.foreign(0, false);
        s.is("both denied", x.poll(0), 0);
        x.remove(0);
        x.remove(1);
        x.sync(0);
        s.is("both denied, with another bundle kept", x.poll(0), 0);
        s.refused("a poll without news", Situations::busy, y -> y.poll(0), 0);
    }

    private void pollOneDifference() {
        s = book.sentence("Promise 11: poll", "(the same certificates, keys and foreign bundles; both denied);");
        Issuer x = Issuer.withIds(32, 3);
        x.entry(2, 1, 1, 64, 1);
        x.attest(1, 0);
        x.watch(0, 1);
        x.tick(20);
        x.prepare();
        x.activate();
        x.sync(0);
        s.is("the first time", x.poll(0), 1);
        x.entry(3, 1, 1, 64, 1);
        x.sync(0);
        s.is("a certificate more, behind the other", x.poll(0), 2);
        x.remove(1);
        x.sync(0);
        s.is("a certificate less", x.poll(0), 1);
        x.foreign(0, true);
        x.sync(0);
        s.is("a foreign bundle more", x.poll(0), 1);
        s.is("it is told", x.friends(), 1);
        x.tick(11);
        s.is("none is renewed", x.sync(0), 0);
        s.is("at 31 key 0 is good", x.poll(0), 0);
        x.tick(1);
        s.is("at 32 the agent still keeps it", x.poll(0), 0);
        s.is("none is renewed", x.sync(0), 0);
        s.is("the first key less", x.poll(0), 1);
        s.is("key 1 is the first now", x.key(0), 1);
        s.is("and the only one", x.key(1), MISSING);
        x.prepare();
        x.sync(0);
        s.is("a key more", x.poll(0), 1);
        s.is("behind the other", x.key(1), 2);
        s.is("no news", x.poll(0), 0);
    }

    private void pollOther() {
        s = book.sentence("Promise 11: poll", "otherwise (always the first time) it is what w got last and the latest "
            + "response, and the answer is that of fetch.");
        Issuer x = synced();
        x.watch(0, 7);
        x.watch(0, 4);
        x.watch(0, 7);
        s.is("the first time", x.poll(0), 3);
        s.is("it is the latest", x.svid(2, 0), 2);
        s.is("its friends", x.friends(), 7);
        s.is("denied, the first time", x.poll(1), DENIED);
        nothing("then", x);
        s.is("the second time", x.poll(1), 0);
        s.is("another watcher's first time", x.poll(2), 3);
        x.remove(0);
        x.sync(0);
        s.is("one less", x.poll(0), 2);
        s.is("it is the latest", x.svid(0, 0), 1);
        s.is("the second time", x.poll(0), 0);
        s.is("the other watcher's second time", x.poll(2), 2);
        Issuer y = Issuer.withIds(64, 2);
        y.entry(2, 1, 1, 20, 0);
        y.attest(1, 0);
        y.sync(0);
        y.watch(0, 1);
        y.poll(0);
        y.tick(10);
        y.sync(0);
        s.is("as many certificates, but renewed", y.poll(0), 1);
        s.is("the new one", y.svid(0, 1), 2);
    }

    private void pollMissing() {
        s = book.sentence("Promise 11: poll", "MISSING when there is no such watcher.");
        Issuer x = synced();
        s.is("none", x.poll(0), MISSING);
        x.watch(0, 7);
        s.is("watcher 1", x.poll(1), MISSING);
        s.is("watcher 0", x.poll(0), 3);
        for (int w : new int[] {2, -1, 4, Integer.MIN_VALUE, Integer.MAX_VALUE}) {
            s.refused("watcher " + w, Situations::busy, y -> y.poll(w), MISSING);
        }
        s.refused("watcher 4 of four", Situations::fullAndBusy, y -> y.poll(4), MISSING);
    }

    private void svid() {
        s = book.sentence("Promise 12: svid", "Of the k-th certificate (from 0 on) of the latest response: 0 its entry, 1 its "
            + "serial, 2 its key, 3 its start, 4 its end; MISSING when there is none, or for another what.");
        Issuer x = synced();
        x.tick(15);
        x.prepare();
        x.activate();
        x.sync(0);
        x.fetch(0, 7);
        int[][] due = {{0, 4, 1, 15, 25}, {1, 5, 1, 15, 35}, {2, 6, 1, 15, 45}};
        for (int k = 0; k < 3; k++) {
            for (int what = 0; what < 5; what++) {
                s.is("svid(" + k + ", " + what + ")", x.svid(k, what), due[k][what]);
            }
            s.is("svid(" + k + ", -1)", x.svid(k, -1), MISSING);
            s.is("svid(" + k + ", 5)", x.svid(k, 5), MISSING);
        }
        s.is("svid(-1, 0)", x.svid(-1, 0), MISSING);
        s.is("svid(3, 0)", x.svid(3, 0), MISSING);
        s.is("svid(0, min)", x.svid(0, Integer.MIN_VALUE), MISSING);
        s.is("svid(max, 0)", x.svid(Integer.MAX_VALUE, 0), MISSING);
        s.is("svid(min, 0)", x.svid(Integer.MIN_VALUE, 0), MISSING);
        s.refused("svid of none", Situations::busy, y -> y.svid(2, 0), MISSING);
        s.refused("svid of another what", Situations::busy, y -> y.svid(0, 5), MISSING);
        x.tick(64);
        s.is("when it has ended long ago", x.svid(2, 4), 45);
    }

    private void key() {
        s = book.sentence("Promise 13: key", "The k-th key (from 0 on, by numbers) of the latest response; MISSING when there "
            + "is none.");
        Issuer x = Situations.full();
        x.tick(60);
        x.sync(2);
        x.fetch(2, -1);
        s.is("at 63 four are good", x.key(3), 3);
        s.is("no fifth", x.key(4), MISSING);
        s.is("key(-1)", x.key(-1), MISSING);
        s.is("key(min)", x.key(Integer.MIN_VALUE), MISSING);
        s.is("key(max)", x.key(Integer.MAX_VALUE), MISSING);
        x.tick(1);
        x.prepare();
        x.sync(2);
        x.fetch(2, -1);
        for (int k = 0; k < 4; k++) {
            s.is("at 64, key(" + k + ")", x.key(k), k + 1);
        }
        s.is("no fifth, too", x.key(4), MISSING);
        s.refused("a key that is none", Situations::busy, y -> y.key(3), MISSING);
    }

    private void friends() {
        s = book.sentence("Promise 14: friends", "The foreign bundles of the latest response, as bits; 0 when there was none, "
            + "or it was DENIED (then svid, key and written answer MISSING).");
        Issuer x = synced();
        nothing("before any response", x);
        x.fetch(0, 7);
        s.is("bundles 0, 1 and 2", x.friends(), 7);
        x.fetch(0, 4);
        nothing("behind a denied one", x);
        Issuer y = Issuer.withIds(64, 2);
        y.entry(2, 1, 1, 60, 15);
        y.attest(1, 0);
        y.foreign(3, true);
        y.sync(0);
        y.fetch(0, 1);
        s.is("bundle 3", y.friends(), 8);
        y.foreign(3, false);
        y.sync(0);
        s.is("the latest response stays", y.friends(), 8);
        y.fetch(0, 1);
        s.is("none is there", y.friends(), 0);
        s.is("though it has a certificate", y.svid(0, 0), 0);
    }
}
