/** Promises 7 (attest) and 8 (sync). */
public final class AgentTest {
    private static final Due due = new Due();
    private static final int MISSING = IdentityIssuer.MISSING;
    private static final int WRONG = IdentityIssuer.WRONG;
    private static final int FULL = IdentityIssuer.FULL;
    private static final int DENIED = IdentityIssuer.DENIED;
    private static final int EXPIRED = IdentityIssuer.EXPIRED;

    public static void main(String[] args) {
        attested();
        wrongAgents();
        attestedAgain();
        missingAgents();
        reachByParents();
        reachBySelectors();
        chainsAgainstTheOrder();
        renewal();
        endOfTheKey();
        expiredKeepsAll();
        expiredOnlyWhenDue();
        lostAndFound();
        due.end();
    }

    private static void attested() {
        Issuer x = Issuer.withIds(64, 4);
        due.is("the first", x.attest(3, 0), 0);
        due.is("the second", x.attest(1, 65535), 1);
        due.is("the first again", x.attest(3, 5), 0);
        due.is("the third", x.attest(2, 1), 2);
        due.is("a fourth", x.attest(4, 1), FULL);
        due.is("a wrong fourth", x.attest(4, -1), WRONG);
        due.is("a missing fourth", x.attest(5, 1), MISSING);
        due.is("the second again", x.attest(1, 1), 1);
    }

    private static void wrongAgents() {
        Issuer x = new Issuer(64);
        due.is("no IDs", x.attest(0, 0), MISSING);
        for (String name : new String[] {"spiffe://o/s", "spiffe://o", "spiffe://p/a", "spiffe://o/a"}) {
            x.id(name);
        }
        due.is("ID 0, with a path", x.attest(0, 0), WRONG);
        due.is("no path", x.attest(1, 0), WRONG);
        due.is("another domain", x.attest(2, 0), WRONG);
        due.is("selectors 65536", x.attest(3, 65536), WRONG);
        due.is("selectors -1", x.attest(3, -1), WRONG);
        due.is("ID -1", x.attest(-1, 0), MISSING);
        due.is("ID 4, wrong selectors", x.attest(4, -1), MISSING);
        due.is("none was made", x.sync(0), MISSING);
        due.is("at last", x.attest(3, 65535), 0);
    }

    private static void attestedAgain() {
        Issuer x = Issuer.withIds(64, 3);
        x.entry(1, 0, 2, 64, 0);
        x.entry(2, 1, 1, 64, 0);
        x.attest(3, 2);
        due.is("sync", x.sync(0), 1);
        due.is("refused", x.attest(3, 65536), WRONG);
        due.is("still kept", x.fetch(0, 1), 1);
        due.is("the same selectors", x.attest(3, 2), 0);
        due.is("keeps nothing", x.fetch(0, 1), DENIED);
        due.is("a new one", x.sync(0), 1);
        x.fetch(0, 1);
        due.is("its serial", x.svid(0, 1), 2);
        due.is("other selectors", x.attest(3, 4), 0);
        due.is("not entitled any more", x.sync(0), 0);
        due.is("denied", x.fetch(0, 1), DENIED);
    }

    private static void missingAgents() {
        Issuer x = Issuer.withIds(64, 2);
        due.is("sync(0)", x.sync(0), MISSING);
        x.attest(1, 0);
        due.is("sync(1)", x.sync(1), MISSING);
        due.is("sync(-1)", x.sync(-1), MISSING);
        due.is("sync(max)", x.sync(Integer.MAX_VALUE), MISSING);
        due.is("entitled to nothing", x.sync(0), 0);
    }

    private static void reachByParents() {
        Issuer x = Issuer.withIds(64, 6);
        x.entry(2, 1, 1, 8, 0);
        x.entry(3, 2, 1, 8, 0);
        x.entry(4, 4, 1, 8, 0);
        x.entry(1, 3, 1, 8, 0);
        x.entry(6, 5, 1, 8, 0);
        x.attest(1, 0);
        x.attest(4, 0);
        x.attest(6, 0);
        due.is("along the chain, round a ring", x.sync(0), 3);
        x.fetch(0, 1);
        due.is("entry 0", x.svid(0, 0), 0);
        due.is("entry 1", x.svid(1, 0), 1);
        due.is("entry 3", x.svid(2, 0), 3);
        due.is("its own parent", x.sync(1), 1);
        due.is("the ID of an entry is not the entry", x.sync(2), 0);
    }

    private static void reachBySelectors() {
        Issuer x = Issuer.withIds(64, 5);
        x.entry(2, 0, 3, 8, 0);
        x.entry(3, 2, 1, 8, 0);
        x.entry(4, 0, 4, 8, 0);
        x.entry(5, 4, 65535, 8, 0);
        x.attest(1, 2);
        due.is("not all selectors", x.sync(0), 0);
        x.attest(1, 3);
        due.is("all of them", x.sync(0), 1);
        due.is("but not the entry under ID 0 itself", x.fetch(0, -1), 1);
        due.is("the one below", x.svid(0, 0), 1);
        x.attest(1, 7);
        due.is("the selectors of entries below count only for workloads", x.sync(0), 2);
        x.attest(1, 0);
        due.is("no selectors", x.sync(0), 0);
    }

    private static void chainsAgainstTheOrder() {
        Issuer x = Issuer.withIds(64, 11);
        for (int id = 11; id > 1; id--) {
            x.entry(id, id - 1, 1, 8, 0);
        }
        x.attest(1, 0);
        due.is("ten links, the last entry first", x.sync(0), 10);
        x.fetch(0, 1);
        for (int k = 0; k < 10; k++) {
            due.is("entry of " + k, x.svid(k, 0), k);
            due.is("serial of " + k, x.svid(k, 1), k + 1);
        }
        x.remove(5);
        due.is("nothing new", x.sync(0), 0);
        due.is("the chain is broken", x.fetch(0, 1), 4);
        due.is("above the gap", x.svid(0, 0), 6);
    }

    private static void renewal() {
        Issuer x = Issuer.withIds(256, 2);
        x.entry(2, 1, 1, 9, 0);
        x.entry(2, 1, 2, 10, 0);
        x.entry(2, 1, 4, 1, 0);
        x.attest(1, 0);
        due.is("at first", x.sync(0), 3);
        due.is("at once", x.sync(0), 0);
        x.tick(4);
        due.is("8 < 9 and 8 < 10", x.sync(0), 1);
        x.fetch(0, 7);
        due.is("start", x.svid(2, 3), 4);
        due.is("end", x.svid(2, 4), 5);
        x.tick(1);
        due.is("10 is not below 9, not below 10", x.sync(0), 3);
        x.fetch(0, 7);
        due.is("serial 0", x.svid(0, 1), 5);
        due.is("serial 1", x.svid(1, 1), 6);
        due.is("serial 2", x.svid(2, 1), 7);
        due.is("start 1", x.svid(1, 3), 5);
        due.is("end 1", x.svid(1, 4), 15);
        x.attest(2, 0);
        due.is("serials go on for another agent", x.sync(1), 0);
    }

    private static void endOfTheKey() {
        Issuer x = Issuer.withIds(40, 2);
        x.entry(2, 1, 1, 40, 0);
        x.attest(1, 0);
        x.sync(0);
        x.fetch(0, 1);
        due.is("both ends at once", x.svid(0, 4), 40);
        x.tick(39);
        due.is("sync", x.sync(0), 1);
        x.fetch(0, 1);
        due.is("start", x.svid(0, 3), 39);
        due.is("the key's end", x.svid(0, 4), 40);
        x.prepare();
        x.activate();
        due.is("it keeps the old key's", x.sync(0), 0);
        x.tick(1);
        due.is("renewed", x.sync(0), 1);
        x.fetch(0, 1);
        due.is("the new key", x.svid(0, 2), 1);
        due.is("the ttl", x.svid(0, 4), 79);
        x.tick(20);
        due.is("the new key's end", x.sync(0), 1);
        x.fetch(0, 1);
        due.is("made at 39", x.svid(0, 4), 79);
    }

    private static void expiredKeepsAll() {
        Issuer x = Issuer.withIds(32, 3);
        x.entry(2, 1, 1, 64, 15);
        x.attest(1, 0);
        x.tick(31);
        x.sync(0);
        x.prepare();
        x.foreign(2, true);
        x.entry(3, 1, 1, 64, 15);
        x.activate();
        x.tick(31);
        due.is("key 1 is good", x.sync(0), 2);
        x.prepare();
        x.foreign(3, true);
        x.entry(3, 1, 1, 64, 15);
        x.remove(0);
        x.tick(1);
        due.is("key 1 is not", x.sync(0), EXPIRED);
        due.is("it keeps what it had, but that is over", x.fetch(0, 1), DENIED);
        due.is("activate", x.activate(), true);
        due.is("now it can", x.sync(0), 2);
        x.fetch(0, 1);
        due.is("no serial was lost", x.svid(0, 1), 4);
        due.is("keys", x.key(0), 2);
        due.is("friends", x.friends(), 12);
    }

    private static void expiredOnlyWhenDue() {
        Issuer x = Issuer.withIds(32, 2);
        x.attest(1, 0);
        x.tick(32);
        due.is("nothing is due", x.sync(0), 0);
        int e = x.entry(2, 1, 1, 64, 0);
        due.is("one is due", x.sync(0), EXPIRED);
        x.remove(e);
        due.is("none again", x.sync(0), 0);
        due.is("prepared", x.prepare(), 1);
        x.entry(2, 1, 1, 64, 0);
        due.is("prepared is not active", x.sync(0), EXPIRED);
    }

    private static void lostAndFound() {
        Issuer x = Issuer.withIds(64, 3);
        int link = x.entry(2, 1, 1, 64, 0);
        x.entry(3, 2, 1, 64, 0);
        x.attest(1, 0);
        x.attest(2, 0);
        due.is("agent 0", x.sync(0), 2);
        due.is("agent 1 gets its own", x.sync(1), 1);
        x.remove(link);
        due.is("it keeps no others", x.sync(0), 0);
        x.entry(2, 1, 1, 64, 0);
        due.is("what it lost is issued again", x.sync(0), 2);
        x.fetch(0, 1);
        due.is("serial of entry 1", x.svid(0, 1), 4);
        due.is("serial of entry 2", x.svid(1, 1), 5);
        x.fetch(1, 1);
        due.is("serial at agent 1", x.svid(0, 1), 3);
    }
}
