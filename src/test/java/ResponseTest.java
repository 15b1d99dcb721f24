/** Promises 9 (fetch), 10 (watch), 11 (poll), 12 (svid), 13 (key) and 14 (friends). */
public final class ResponseTest {
    private static final Due due = new Due();
    private static final int MISSING = IdentityIssuer.MISSING;
    private static final int FULL = IdentityIssuer.FULL;
    private static final int DENIED = IdentityIssuer.DENIED;

    public static void main(String[] args) {
        beforeAnyResponse();
        fetched();
        selectorsOfWorkloads();
        certificatesEnd();
        theLatestStays();
        keysOfAResponse();
        friendsOfAResponse();
        watched();
        polledFirst();
        polledAgain();
        polledWithOneDifference();
        pollLeavesTheLatest();
        watchersApart();
        due.end();
    }

    private static void nothing(Issuer x, String when) {
        due.is("svid(0, 0) " + when, x.svid(0, 0), MISSING);
        due.is("key(0) " + when, x.key(0), MISSING);
        due.is("friends() " + when, x.friends(), 0);
        due.is("written(0, 0) " + when, x.written(0, 0), MISSING);
    }

    /** Agent 0 has entries 0 (selectors 1, friends 1), 1 (2, friends 2) and 2 (6, friends 4), and has synced. */
    private static Issuer synced() {
        Issuer x = Issuer.withIds(64, 4);
        x.entry(2, 1, 1, 10, 1);
        x.entry(3, 1, 2, 20, 2);
        x.entry(4, 3, 6, 30, 4);
        x.attest(1, 0);
        for (int k = 0; k < 4; k++) {
            x.foreign(k, true);
        }
        x.sync(0);
        return x;
    }

    private static void beforeAnyResponse() {
        Issuer x = synced();
        nothing(x, "at first");
        due.is("no agent 1", x.fetch(1, 7), MISSING);
        due.is("no agent -1", x.fetch(-1, 7), MISSING);
        due.is("no watcher", x.poll(0), MISSING);
        nothing(x, "after refused calls");
    }

    private static void fetched() {
        Issuer x = synced();
        due.is("fetch", x.fetch(0, 7), 3);
        int[][] want = {{0, 1, 0, 0, 10}, {1, 2, 0, 0, 20}, {2, 3, 0, 0, 30}};
        for (int k = 0; k < 3; k++) {
            for (int what = 0; what < 5; what++) {
                due.is("svid(" + k + ", " + what + ")", x.svid(k, what), want[k][what]);
            }
            due.is("what -1", x.svid(k, -1), MISSING);
            due.is("what 5", x.svid(k, 5), MISSING);
        }
        due.is("k 3", x.svid(3, 0), MISSING);
        due.is("k -1", x.svid(-1, 0), MISSING);
        due.is("k max", x.svid(Integer.MAX_VALUE, 0), MISSING);
    }

    private static void selectorsOfWorkloads() {
        Issuer x = synced();
        due.is("none", x.fetch(0, 0), DENIED);
        due.is("1", x.fetch(0, 1), 1);
        due.is("2", x.fetch(0, 2), 1);
        due.is("its entry", x.svid(0, 0), 1);
        due.is("4", x.fetch(0, 4), DENIED);
        nothing(x, "denied");
        due.is("6", x.fetch(0, 6), 2);
        due.is("more than any", x.fetch(0, 65535), 3);
        due.is("all bits", x.fetch(0, -1), 3);
        due.is("bits above 15 are no selectors", x.fetch(0, 65536), DENIED);
    }

    private static void certificatesEnd() {
        Issuer x = synced();
        x.tick(9);
        due.is("at 9", x.fetch(0, 7), 3);
        x.tick(1);
        due.is("at 10", x.fetch(0, 7), 2);
        due.is("the first", x.svid(0, 0), 1);
        due.is("friends of what is left", x.friends(), 6);
        x.tick(20);
        due.is("at 30", x.fetch(0, 7), DENIED);
        nothing(x, "when all have ended");
    }

    private static void theLatestStays() {
        Issuer x = synced();
        x.fetch(0, 2);
        x.fetch(1, 7);
        due.is("a refused fetch", x.svid(0, 1), 2);
        x.tick(64);
        x.remove(1);
        x.attest(1, 0);
        due.is("time and agents go on", x.svid(0, 1), 2);
        due.is("its key", x.key(0), 0);
        due.is("its friends", x.friends(), 2);
        due.is("its bytes", x.written(0, 0), 48);
        due.is("denied now", x.fetch(0, 7), DENIED);
        nothing(x, "afterwards");
    }

    private static void keysOfAResponse() {
        Issuer x = synced();
        x.prepare();
        x.fetch(0, 7);
        due.is("as at the sync", x.key(1), MISSING);
        x.sync(0);
        due.is("the latest stays", x.key(1), MISSING);
        x.fetch(0, 7);
        due.is("key 0", x.key(0), 0);
        due.is("key 1", x.key(1), 1);
        due.is("key 2", x.key(2), MISSING);
        due.is("key -1", x.key(-1), MISSING);
        due.is("key max", x.key(Integer.MAX_VALUE), MISSING);
        x.activate();
        x.tick(63);
        x.prepare();
        due.is("at 63", x.sync(0), 3);
        x.tick(1);
        x.fetch(0, 7);
        nothing(x, "the keys ended at 64");
        x.activate();
        x.sync(0);
        x.fetch(0, 7);
        due.is("from key 2 on", x.key(0), 2);
        due.is("and no more", x.key(1), MISSING);

        Issuer y = Issuer.withIds(32, 2);
        y.entry(2, 1, 1, 64, 0);
        y.attest(1, 0);
        y.tick(20);
        y.prepare();
        y.activate();
        y.sync(0);
        y.tick(12);
        due.is("key 0 is not good any more", y.fetch(0, 1), 1);
        due.is("but kept", y.key(0), 0);
        due.is("with key 1", y.key(1), 1);
    }

    private static void friendsOfAResponse() {
        Issuer x = synced();
        x.fetch(0, 7);
        due.is("all three", x.friends(), 7);
        x.fetch(0, 2);
        due.is("of one", x.friends(), 2);
        x.foreign(1, false);
        x.fetch(0, 7);
        due.is("not heard of yet", x.friends(), 7);
        x.sync(0);
        x.fetch(0, 7);
        due.is("heard", x.friends(), 5);
        x.fetch(0, 2);
        due.is("a friend that is not there", x.friends(), 0);
    }

    private static void watched() {
        Issuer x = synced();
        due.is("no agent 1", x.watch(1, 7), MISSING);
        due.is("no agent -1", x.watch(-1, 7), MISSING);
        for (int w = 0; w < 4; w++) {
            due.is("watcher " + w, x.watch(0, 7), w);
        }
        due.is("a fifth", x.watch(0, 7), FULL);
        due.is("a fifth of no agent", x.watch(1, 7), MISSING);
        due.is("poll(4)", x.poll(4), MISSING);
        due.is("poll(-1)", x.poll(-1), MISSING);
        due.is("poll(3)", x.poll(3), 3);
    }

    private static void polledFirst() {
        Issuer x = synced();
        x.watch(0, 4);
        x.watch(0, 3);
        x.fetch(0, 7);
        due.is("denied the first time", x.poll(0), DENIED);
        nothing(x, "after a denied poll");
        due.is("denied again", x.poll(0), 0);
        due.is("two", x.poll(1), 2);
        due.is("it is the latest", x.svid(1, 0), 1);
        due.is("its friends", x.friends(), 3);
        due.is("no news", x.poll(1), 0);
    }

    private static void polledAgain() {
        Issuer x = synced();
        x.watch(0, 3);
        x.poll(0);
        x.sync(0);
        due.is("a sync without news", x.poll(0), 0);
        x.foreign(2, false);
        x.sync(0);
        due.is("a foreign bundle of others", x.poll(0), 0);
        x.foreign(0, false);
        due.is("before the sync", x.poll(0), 0);
        x.sync(0);
        due.is("a foreign bundle less", x.poll(0), 2);
        due.is("the friend that is left", x.friends(), 2);
        x.prepare();
        x.sync(0);
        due.is("a key more", x.poll(0), 2);
        due.is("it is there", x.key(1), 1);
        x.activate();
        x.sync(0);
        due.is("activating alone is no news", x.poll(0), 0);
        x.tick(5);
        x.sync(0);
        due.is("a certificate renewed", x.poll(0), 2);
        due.is("serial", x.svid(0, 1), 4);
        x.tick(10);
        due.is("one has ended", x.poll(0), 1);
        due.is("the other", x.svid(0, 0), 1);
        due.is("no news", x.poll(0), 0);
        x.attest(1, 0);
        due.is("the agent keeps nothing", x.poll(0), DENIED);
        due.is("both denied", x.poll(0), 0);
        x.prepare();
        x.attest(1, 0);
        due.is("a denied response has no keys", x.poll(0), 0);
        x.sync(0);
        due.is("new ones", x.poll(0), 2);
    }

    private static void polledWithOneDifference() {
        Issuer x = Issuer.withIds(32, 3);
        x.entry(2, 1, 1, 8, 0);
        x.entry(3, 1, 1, 32, 0);
        x.attest(1, 0);
        x.watch(0, 1);
        x.prepare();
        x.activate();
        x.sync(0);
        due.is("the first time", x.poll(0), 2);
        x.tick(8);
        due.is("a certificate less, nothing else", x.poll(0), 1);
        due.is("no news", x.poll(0), 0);
        x.tick(10);
        x.prepare();
        x.activate();
        x.remove(0);
        x.sync(0);
        due.is("renewed", x.poll(0), 1);
        due.is("three keys", x.key(2), 2);
        x.tick(14);
        due.is("at 32 it keeps keys 0 and 1", x.poll(0), 0);
        x.sync(0);
        due.is("till it syncs", x.poll(0), 1);
        due.is("the first key is key 2", x.key(0), 2);
        due.is("and it is the last", x.key(1), MISSING);
    }

    private static void pollLeavesTheLatest() {
        Issuer x = synced();
        x.watch(0, 3);
        x.poll(0);
        x.fetch(0, 6);
        due.is("no news", x.poll(0), 0);
        due.is("the latest is the fetched one", x.svid(1, 0), 2);
        due.is("no watcher", x.poll(1), MISSING);
        due.is("it still is", x.svid(1, 0), 2);
        x.remove(0);
        x.sync(0);
        due.is("news", x.poll(0), 1);
        due.is("now it is the polled one", x.svid(1, 0), MISSING);
        due.is("fetching is not polling", x.fetch(0, 3), 1);
        due.is("no news", x.poll(0), 0);
    }

    private static void watchersApart() {
        Issuer x = synced();
        x.attest(3, 0);
        x.watch(0, 6);
        x.watch(1, 6);
        x.watch(0, 6);
        due.is("watcher 0", x.poll(0), 2);
        due.is("watcher 1", x.poll(1), DENIED);
        due.is("watcher 2", x.poll(2), 2);
        x.sync(1);
        due.is("no news for 0", x.poll(0), 0);
        due.is("news for 1", x.poll(1), 1);
        due.is("its own certificate", x.svid(0, 1), 4);
        due.is("of entry 2", x.svid(0, 0), 2);
        due.is("no news for 2", x.poll(2), 0);
    }
}
