/** The edges of agents, their reach and what they keep: terms, and promises 7 (attest) and 8 (sync). */
final class AgentEdges {
    private static final int MISSING = IdentityIssuer.MISSING;
    private static final int WRONG = IdentityIssuer.WRONG;
    private static final int FULL = IdentityIssuer.FULL;
    private static final int DENIED = IdentityIssuer.DENIED;
    private static final int EXPIRED = IdentityIssuer.EXPIRED;

    private final Book book;
    private Sentence s;

    AgentEdges(Book book) {
        this.book = book;
    }

    void run() {
        threeAgents();
        reach();
        longestChain();
        entitled();
        lowestNumberFirst();
        half();
        issued();
        ends();
        noOthers();
        bundlesAsTheyAre();
        attest();
        attestAgain();
        attestRefused();
        sync();
        syncRefused();
    }

    private void threeAgents() {
        s = book.sentence("Terms", "AGENTS 0, 1, .., at most 3, have an ID and selectors.");
        Issuer x = Issuer.withIds(64, 4);
        for (int a = 0; a < 3; a++) {
            s.is("agent " + a, x.attest(a + 1, 0), a);
            s.is("agent " + a + " is there", x.sync(a), 0);
            s.is("agent " + (a + 1) + " is not", x.sync(a + 1), MISSING);
        }
        s.is("a fourth", x.attest(4, 0), FULL);
    }

    private void reach() {
        s = book.sentence("Terms", "An agent's REACH: its ID; the IDs of all entries whose parent is ID 0 and whose "
            + "selectors are all among the agent's; and the ID of each entry whose parent is in the reach.");
        Issuer x = Issuer.withIds(64, 6);
        x.entry(2, 1, 1, 60, 0);
        x.entry(4, 0, 5, 60, 0);
        x.entry(5, 4, 1, 60, 0);
        x.entry(6, 5, 32768, 60, 0);
        x.attest(1, 0);
        s.is("its ID", x.sync(0), 1);
        x.attest(1, 4);
        s.is("one of two selectors", x.sync(0), 1);
        x.attest(1, 1);
        s.is("the other one", x.sync(0), 1);
        x.attest(1, 65530);
        s.is("all but the two", x.sync(0), 1);
        x.attest(1, 5);
        s.is("both: two more below it", x.sync(0), 3);
        x.attest(1, 65535);
        s.is("all there are", x.sync(0), 3);
        x.fetch(0, 65535);
        s.is("below ID 1", x.svid(0, 0), 0);
        s.is("below ID 4", x.svid(1, 0), 2);
        s.is("below ID 5", x.svid(2, 0), 3);
        Issuer y = Issuer.withIds(64, 3);
        y.entry(2, 0, 32768, 60, 0);
        y.entry(3, 2, 1, 60, 0);
        y.attest(1, 32767);
        s.is("all selectors but 15", y.sync(0), 0);
        y.attest(1, 32768);
        s.is("selector 15", y.sync(0), 1);
    }

    private void longestChain() {
        s = book.sentence("Terms", "and the ID of each entry whose parent is in the reach.");
        Issuer x = Issuer.withIds(64, 11);
        x.entry(1, 11, 1, 60, 0);
        for (int id = 11; id > 1; id--) {
            x.entry(id, id - 1, 1, 60, 0);
        }
        x.attest(1, 0);
        s.is("a chain of eleven that bites its tail, the last link made first", x.sync(0), 11);
        x.remove(6);
        x.sync(0);
        s.is("broken in the middle", x.fetch(0, 1), 4);
        x.entry(6, 5, 1, 60, 0);
        s.is("mended", x.sync(0), 7);
        Issuer y = Issuer.withIds(64, 11);
        for (int id = 11; id > 2; id--) {
            y.entry(id, id - 1, 1, 60, 0);
        }
        y.entry(2, 0, 2, 60, 0);
        y.attest(1, 2);
        s.is("a chain that hangs on the server's entry, made last", y.sync(0), 9);
        y.attest(1, 1);
        s.is("without its selector", y.sync(0), 0);
        Issuer z = Issuer.withIds(64, 4);
        z.entry(3, 2, 1, 60, 0);
        z.entry(2, 3, 1, 60, 0);
        z.entry(4, 4, 1, 60, 0);
        z.attest(1, 65535);
        s.is("rings without it", z.sync(0), 0);
    }

    private void entitled() {
        s = book.sentence("Terms", "It is ENTITLED to the entries whose parent is in its reach.");
        Issuer x = Issuer.withIds(64, 3);
        x.entry(1, 0, 1, 60, 0);
        x.entry(2, 0, 1, 60, 0);
        x.attest(1, 1);
        s.is("an entry under ID 0 is in nobody's reach", x.sync(0), 0);
        s.is("not even its own ID's", x.fetch(0, 65535), DENIED);
        x.entry(1, 2, 1, 60, 0);
        s.is("its own ID under one of its reach", x.sync(0), 1);
        x.entry(1, 3, 1, 60, 0);
        s.is("its own ID under another", x.sync(0), 0);
        x.entry(3, 3, 1, 60, 0);
        s.is("an ID under itself", x.sync(0), 0);
        x.entry(3, 1, 1, 60, 0);
        s.is("when that ID is reached", x.sync(0), 3);
    }

    private void lowestNumberFirst() {
        s = book.sentence("Terms", "When an agent SYNCS it keeps a certificate for each entry that it is entitled to, the "
            + "lowest number first:");
        Issuer x = Issuer.withIds(64, 3);
        x.attest(1, 0);
        s.is("none", x.sync(0), 0);
        x.entry(3, 2, 1, 60, 0);
        x.entry(2, 1, 1, 60, 0);
        for (int e = 2; e < 12; e++) {
            x.entry(2, 1, 1, 60, 0);
        }
        s.is("twelve", x.sync(0), 12);
        s.is("kept", x.fetch(0, 1), 12);
        for (int k = 0; k < 12; k++) {
            s.is("entry of " + k, x.svid(k, 0), k);
            s.is("serial of " + k, x.svid(k, 1), k + 1);
        }
    }

    private void half(int ttl, int last) {
        Issuer x = Issuer.withIds(256, 2);
        x.entry(2, 1, 1, ttl, 0);
        x.attest(1, 0);
        x.tick(5);
        x.sync(0);
        if (last > 0) {
            x.tick(last);
        }
        s.is("ttl " + ttl + ", after " + last, x.sync(0), 0);
        x.fetch(0, 1);
        s.is("ttl " + ttl + ", the same one", x.svid(0, 1), 1);
        x.tick(1);
        s.is("ttl " + ttl + ", after " + (last + 1), x.sync(0), 1);
        x.fetch(0, 1);
        s.is("ttl " + ttl + ", a new one", x.svid(0, 1), 2);
        s.is("ttl " + ttl + ", its start", x.svid(0, 3), 6 + last);
    }

    private void half() {
        s = book.sentence("Terms", "the one that it has for this entry, if the clock is below the half of its time "
            + "(2 * clock < start + end);");
        half(1, 0);
        half(2, 0);
        half(3, 1);
        half(4, 1);
        half(5, 2);
        half(63, 31);
        half(64, 31);
        Issuer x = Issuer.withIds(32, 2);
        x.entry(2, 1, 1, 64, 0);
        x.attest(1, 0);
        x.tick(20);
        x.sync(0);
        x.tick(5);
        s.is("the half of the time up to the key's end, 20 .. 32, at 25", x.sync(0), 0);
        x.tick(1);
        s.is("at 26", x.sync(0), 1);
        Issuer y = Issuer.withIds(64, 2);
        y.entry(2, 1, 1, 64, 0);
        y.entry(2, 1, 1, 64, 0);
        y.attest(1, 0);
        y.sync(0);
        y.remove(0);
        y.entry(2, 1, 1, 64, 0);
        s.is("an entry that is made again is another one", y.sync(0), 1);
    }

    private void issued() {
        s = book.sentence("Terms", "otherwise a new one is ISSUED by the active key: the serial is one more than that "
            + "issued before (1 for the first), start is the clock,");
        Issuer x = Issuer.withIds(64, 3);
        x.entry(3, 1, 1, 10, 0);
        x.entry(3, 2, 1, 10, 0);
        x.attest(1, 0);
        x.attest(2, 0);
        x.sync(0);
        x.fetch(0, 1);
        s.is("the first serial", x.svid(0, 1), 1);
        s.is("its start", x.svid(0, 3), 0);
        x.tick(1);
        x.prepare();
        x.activate();
        x.sync(1);
        x.fetch(1, 1);
        s.is("another agent's", x.svid(0, 1), 2);
        s.is("its start", x.svid(0, 3), 1);
        s.is("its key", x.svid(0, 2), 1);
        x.sync(0);
        x.fetch(0, 1);
        s.is("kept, though by the old key", x.svid(0, 2), 0);
        x.attest(1, 0);
        x.sync(0);
        x.fetch(0, 1);
        s.is("the next", x.svid(0, 1), 3);
        s.is("its key", x.svid(0, 2), 1);
    }

    private void end(int waited, int ttl, int end) {
        Issuer x = Issuer.withIds(32, 2);
        x.entry(2, 1, 1, ttl, 0);
        x.attest(1, 0);
        x.pass(waited);
        x.sync(0);
        x.fetch(0, 1);
        s.is("ttl " + ttl + " at " + waited, x.svid(0, 4), end);
    }

    private void ends() {
        s = book.sentence("Terms", "end the clock + the TTL or the end of the active key's goodness, whichever is less.");
        end(0, 1, 1);
        end(0, 31, 31);
        end(0, 32, 32);
        end(0, 33, 32);
        end(0, 64, 32);
        end(1, 30, 31);
        end(1, 31, 32);
        end(1, 32, 32);
        end(31, 1, 32);
        end(31, 2, 32);
        Issuer x = Issuer.withIds(32, 2);
        x.entry(2, 1, 1, 64, 0);
        x.attest(1, 0);
        x.tick(9);
        x.prepare();
        x.sync(0);
        x.fetch(0, 1);
        s.is("not the prepared key's", x.svid(0, 4), 32);
        x.activate();
        x.attest(1, 0);
        x.sync(0);
        x.fetch(0, 1);
        s.is("not the old key's", x.svid(0, 4), 41);
    }

    private void noOthers() {
        s = book.sentence("Terms", "It keeps no others.");
        Issuer x = Issuer.withIds(64, 3);
        x.entry(2, 1, 1, 60, 0);
        x.entry(3, 2, 1, 60, 0);
        x.attest(1, 0);
        x.sync(0);
        x.remove(0);
        s.is("before it syncs", x.fetch(0, 1), 2);
        s.is("none is issued", x.sync(0), 0);
        s.is("the removed one and the one behind it are lost", x.fetch(0, 1), DENIED);
        x.entry(2, 1, 1, 60, 0);
        s.is("what it lost is issued again", x.sync(0), 2);
        x.fetch(0, 1);
        s.is("with a new serial", x.svid(0, 1), 3);
    }

    private void bundlesAsTheyAre() {
        s = book.sentence("Terms", "It keeps, too, the bundle and the foreign bundles that are there as they are then.");
        Issuer x = Issuer.withIds(64, 2);
        x.entry(2, 1, 1, 60, 15);
        x.attest(1, 0);
        x.foreign(1, true);
        x.sync(0);
        x.prepare();
        x.foreign(3, true);
        x.foreign(1, false);
        x.fetch(0, 1);
        s.is("keys", x.key(1), MISSING);
        s.is("foreign bundles", x.friends(), 2);
        s.is("a sync that issues none", x.sync(0), 0);
        x.fetch(0, 1);
        s.is("keys then", x.key(1), 1);
        s.is("foreign bundles then", x.friends(), 8);
    }

    private void attest() {
        s = book.sentence("Promise 7: attest", "An agent with this ID and these selectors (0 .. 65535);");
        Issuer x = Issuer.withIds(64, 4);
        x.entry(2, 0, 65535, 60, 0);
        x.entry(3, 2, 1, 60, 0);
        x.entry(3, 1, 1, 60, 0);
        s.is("selectors 0", x.attest(1, 0), 0);
        s.is("with its ID alone", x.sync(0), 1);
        s.is("selectors 65535", x.attest(4, 65535), 1);
        s.is("with its selectors alone", x.sync(1), 1);
        x.attest(4, 65534);
        s.is("without selector 0", x.sync(1), 0);
        s.is("an agent that has not synced", x.attest(2, 65535), 2);
        s.is("keeps nothing", x.fetch(2, 1), DENIED);
    }

    private void attestAgain() {
        s = book.sentence("Promise 7: attest", "one with this ID that is there already gets the selectors (also the same "
            + "ones) and keeps nothing any more. Answers its number.");
        Issuer x = Issuer.withIds(64, 5);
        x.entry(2, 0, 4, 60, 15);
        x.entry(3, 2, 1, 60, 15);
        x.foreign(0, true);
        x.attest(1, 4);
        x.attest(4, 4);
        x.attest(5, 4);
        x.sync(0);
        x.sync(1);
        s.is("with all three there", x.attest(1, 4), 0);
        s.is("the same selectors, nothing kept", x.fetch(0, 1), DENIED);
        s.is("no keys", x.key(0), MISSING);
        s.is("the other one keeps its own", x.fetch(1, 1), 1);
        s.is("issued again", x.sync(0), 1);
        x.fetch(0, 1);
        s.is("a new serial", x.svid(0, 1), 3);
        s.is("other selectors", x.attest(1, 3), 0);
        s.is("they count", x.sync(0), 0);
        s.is("the last agent", x.attest(5, 3), 2);
    }

    private void attestRefused() {
        s = book.sentence("Promise 7: attest", "MISSING when the ID is not there; WRONG when it is 0, has no path or "
            + "another domain than ours, or selectors is not as said; FULL.");
        s.is("an ID that is there", Situations.busy().attest(6, 0), 2);
        for (int id : new int[] {8, -1, 32, Integer.MIN_VALUE, Integer.MAX_VALUE}) {
            s.refused("ID " + id, Situations::busy, x -> x.attest(id, 0), MISSING);
        }
        s.refused("ID 8, and wrong selectors", Situations::busy, x -> x.attest(8, -1), MISSING);
        s.refused("ID 0", Situations::busy, x -> x.attest(0, 0), WRONG);
        s.refused("ID 1 without a path", Situations::busy, x -> x.attest(1, 0), WRONG);
        s.refused("ID 5 of another domain", Situations::busy, x -> x.attest(5, 0), WRONG);
        for (int selectors : new int[] {-1, 65536, Integer.MIN_VALUE, Integer.MAX_VALUE}) {
            s.refused("a new agent, selectors " + selectors, Situations::busy, x -> x.attest(6, selectors), WRONG);
            s.refused("an agent, selectors " + selectors, Situations::busy, x -> x.attest(2, selectors), WRONG);
        }
        s.refused("a fourth agent", Situations::fullAndBusy, x -> x.attest(4, 0), FULL);
        s.refused("a fourth agent, wrong selectors", Situations::fullAndBusy, x -> x.attest(4, 65536), WRONG);
        s.refused("a fourth agent, ID 12", Situations::fullAndBusy, x -> x.attest(12, 0), MISSING);
        s.is("an agent that is there already, when all is full", Situations.full().attest(3, 0), 2);
    }

    private void sync() {
        s = book.sentence("Promise 8: sync", "Agent a syncs. Answers how many certificates were issued.");
        Issuer x = Issuer.withIds(64, 2);
        x.attest(1, 0);
        s.is("none", x.sync(0), 0);
        for (int e = 0; e < 11; e++) {
            x.entry(2, 1, 1, 60, 0);
        }
        s.is("eleven", x.sync(0), 11);
        x.entry(2, 1, 1, 60, 0);
        s.is("one beside those that are kept", x.sync(0), 1);
        s.is("none again", x.sync(0), 0);
        x.attest(1, 0);
        s.is("all twelve", x.sync(0), 12);
    }

    private static Issuer keptAndExpired() {
        Issuer x = Situations.expired();
        x.remove(0);
        x.remove(1);
        return x;
    }

    private void syncRefused() {
        s = book.sentence("Promise 8: sync", "MISSING when there is no such agent; EXPIRED when one would have to be issued "
            + "and the active key is not good (then it keeps what it had: certificates, bundle and foreign bundles).");
        for (int a : new int[] {2, 3, -1, Integer.MIN_VALUE, Integer.MAX_VALUE}) {
            s.refused("agent " + a, Situations::busy, x -> x.sync(a), MISSING);
        }
        s.refused("agent 3 of three", Situations::fullAndBusy, x -> x.sync(3), MISSING);
        s.is("agent 2 of three", Situations.full().sync(2), 0);
        s.refused("the active key is not good", Situations::expired, x -> x.sync(0), EXPIRED);
        s.is("none would have to be issued", keptAndExpired().sync(0), 0);
        Issuer x = Issuer.withIds(32, 2);
        x.entry(2, 1, 1, 64, 0);
        x.attest(1, 0);
        x.sync(0);
        x.tick(31);
        s.is("the key's last time", x.sync(0), 1);
        x.tick(1);
        s.is("behind it", x.sync(0), EXPIRED);
        x.prepare();
        s.is("a prepared key does not help", x.sync(0), EXPIRED);
        x.activate();
        s.is("an active one does", x.sync(0), 1);
        x.fetch(0, 1);
        s.is("no serial was lost", x.svid(0, 1), 3);
    }
}
