/** The edges of entries and foreign bundles: terms, and promises 4 (entry), 5 (remove) and 6 (foreign). */
final class EntryEdges {
    private static final int MISSING = IdentityIssuer.MISSING;
    private static final int WRONG = IdentityIssuer.WRONG;
    private static final int FULL = IdentityIssuer.FULL;
    private static final int DENIED = IdentityIssuer.DENIED;

    private final Book book;
    private Sentence s;

    EntryEdges(Book book) {
        this.book = book;
    }

    void run() {
        roomForEntries();
        parts();
        foreignBundles();
        made();
        missing();
        wrongNames();
        wrongNumbers();
        full();
        removed();
        foreign();
    }

    private void roomForEntries() {
        s = book.sentence("Terms", "ENTRIES are numbered 0, 1, .. in the order in which they are made, at most 60 ever, "
            + "at most 12 there.");
        Issuer x = Issuer.withIds(64, 2);
        for (int e = 0; e < 12; e++) {
            s.is("entry " + e + " there", x.entry(2, 1, 1, 5, 0), e);
        }
        s.is("a 13th there", x.entry(2, 1, 1, 5, 0), FULL);
        x.remove(11);
        s.is("room again", x.entry(2, 1, 1, 5, 0), 12);
        s.is("a 13th again", x.entry(2, 1, 1, 5, 0), FULL);
        for (int e = 13; e < 60; e++) {
            x.remove(e - 1);
            s.is("entry " + e + " ever", x.entry(2, 1, 1, 5, 0), e);
        }
        x.remove(0);
        s.is("a 61st ever, with room for one there", x.entry(2, 1, 1, 5, 0), FULL);
        x.remove(59);
        s.is("a 61st ever, still", x.entry(2, 1, 1, 5, 0), FULL);
    }

    private void parts() {
        s = book.sentence("Terms", "An entry has an ID and a PARENT (an ID), SELECTORS (a set of 0 .. 15, as bits; not "
            + "empty), a TTL (1 .. 64), and FRIENDS (a set of 0 .. 3).");
        Issuer x = Issuer.withIds(256, 4);
        s.is("the least numbers", x.entry(2, 1, 1, 1, 0), 0);
        s.is("the greatest numbers", x.entry(3, 1, 65535, 64, 15), 1);
        s.is("selector 15 alone", x.entry(4, 1, 32768, 2, 8), 2);
        for (int k = 0; k < 4; k++) {
            x.foreign(k, true);
        }
        x.attest(1, 0);
        s.is("sync", x.sync(0), 3);
        s.is("all selectors", x.fetch(0, 65535), 3);
        s.is("ttl 1", x.svid(0, 4), 1);
        s.is("ttl 64", x.svid(1, 4), 64);
        s.is("friends 0 .. 3", x.friends(), 15);
        s.is("all selectors but 15", x.fetch(0, 32767), 1);
        s.is("the one with selector 0", x.svid(0, 0), 0);
        s.is("no friends", x.friends(), 0);
        s.is("selector 15", x.fetch(0, 32768), 1);
        s.is("friend 3", x.friends(), 8);
        s.is("all but selector 0", x.fetch(0, 65534), 1);
    }

    private void foreignBundles() {
        s = book.sentence("Terms", "FOREIGN BUNDLES 0 .. 3 are there or not.");
        Issuer x = new Issuer(64);
        s.is("bundle -1", x.foreign(-1, true), false);
        s.is("bundle 0", x.foreign(0, true), true);
        s.is("bundle 3", x.foreign(3, true), true);
        s.is("bundle 4", x.foreign(4, true), false);
        s.is("0 is there", x.foreign(0, false), true);
        s.is("0 is not there", x.foreign(0, false), false);
    }

    private void made() {
        s = book.sentence("Promise 4: entry", "Makes an entry (the same may be made again; the parent may be 0, or the id "
            + "itself); answers its number.");
        Issuer x = Issuer.withIds(64, 2);
        s.is("an entry", x.entry(2, 1, 1, 5, 0), 0);
        s.is("the same again", x.entry(2, 1, 1, 5, 0), 1);
        s.is("parent 0", x.entry(2, 0, 1, 5, 0), 2);
        s.is("the id itself", x.entry(2, 2, 1, 5, 0), 3);
        x.attest(1, 0);
        s.is("each is an entry of its own, that under 0 not entitled", x.sync(0), 3);
        x.fetch(0, 1);
        s.is("the first", x.svid(0, 0), 0);
        s.is("the same again", x.svid(1, 0), 1);
        s.is("the id itself", x.svid(2, 0), 3);
    }

    private void missing() {
        s = book.sentence("Promise 4: entry", "MISSING when the IDs id or parent are not there;");
        Issuer x = Issuer.withIds(64, 2);
        s.is("id 2", x.entry(2, 2, 1, 5, 0), 0);
        s.is("id 3", x.entry(3, 2, 1, 5, 0), MISSING);
        s.is("parent 3", x.entry(2, 3, 1, 5, 0), MISSING);
        s.is("parent 0", x.entry(2, 0, 1, 5, 0), 1);
        s.is("parent -1", x.entry(2, -1, 1, 5, 0), MISSING);
        s.is("before all that is wrong", x.entry(3, 0, 0, 0, -1), MISSING);
        s.is("before an id 0", x.entry(0, 3, 1, 5, 0), MISSING);
        for (int id : new int[] {8, -1, 32, Integer.MIN_VALUE, Integer.MAX_VALUE}) {
            s.refused("id " + id, Situations::busy, y -> y.entry(id, 2, 1, 5, 0), MISSING);
            s.refused("parent " + id, Situations::busy, y -> y.entry(3, id, 1, 5, 0), MISSING);
        }
        s.refused("id 12 when all is full", Situations::fullAndBusy, y -> y.entry(12, 1, 1, 5, 0), MISSING);
    }

    private void wrongNames() {
        s = book.sentence("Promise 4: entry", "WRONG when id is 0, has no path, or id or parent has another domain than "
            + "ours,");
        Issuer x = Situations.busy();
        s.is("id 2 under parent 0", x.entry(2, 0, 1, 5, 0), 5);
        s.is("id 3 under parent 1, which has no path", x.entry(3, 1, 1, 5, 0), 6);
        s.refused("id 0, with a path", Situations::busy, y -> y.entry(0, 2, 1, 5, 0), WRONG);
        s.refused("id 1 without a path", Situations::busy, y -> y.entry(1, 2, 1, 5, 0), WRONG);
        s.refused("id 5 of another domain", Situations::busy, y -> y.entry(5, 2, 1, 5, 0), WRONG);
        s.refused("id 7 of another domain, without a path", Situations::busy, y -> y.entry(7, 2, 1, 5, 0), WRONG);
        s.refused("parent 5 of another domain", Situations::busy, y -> y.entry(3, 5, 1, 5, 0), WRONG);
        s.refused("parent 7 of another domain, without a path", Situations::busy, y -> y.entry(3, 7, 1, 5, 0), WRONG);
        s.refused("id 0 when all is full", Situations::fullAndBusy, y -> y.entry(0, 1, 1, 5, 0), WRONG);
    }

    private void wrongNumbers() {
        s = book.sentence("Promise 4: entry", "or selectors is not 1 .. 65535, ttl not 1 .. 64, friends not 0 .. 15;");
        Issuer x = Situations.busy();
        s.is("selectors 1", x.entry(3, 2, 1, 5, 0), 5);
        s.is("selectors 65535", x.entry(3, 2, 65535, 5, 0), 6);
        s.is("ttl 1", x.entry(3, 2, 1, 1, 0), 7);
        s.is("ttl 64", x.entry(3, 2, 1, 64, 0), 8);
        s.is("friends 15", x.entry(3, 2, 1, 5, 15), 9);
        for (int selectors : new int[] {0, 65536, -1, 65537, Integer.MIN_VALUE, Integer.MAX_VALUE}) {
            s.refused("selectors " + selectors, Situations::busy, y -> y.entry(3, 2, selectors, 5, 0), WRONG);
        }
        for (int ttl : new int[] {0, 65, -1, Integer.MIN_VALUE, Integer.MAX_VALUE}) {
            s.refused("ttl " + ttl, Situations::busy, y -> y.entry(3, 2, 1, ttl, 0), WRONG);
        }
        for (int friends : new int[] {-1, 16, 17, Integer.MIN_VALUE, Integer.MAX_VALUE}) {
            s.refused("friends " + friends, Situations::busy, y -> y.entry(3, 2, 1, 5, friends), WRONG);
        }
        s.refused("ttl 65 when all is full", Situations::fullAndBusy, y -> y.entry(1, 1, 1, 65, 0), WRONG);
    }

    private void full() {
        s = book.sentence("Promise 4: entry", "FULL.");
        s.refused("a 13th there", Situations::fullAndBusy, x -> x.entry(1, 1, 1, 5, 0), FULL);
        s.refused("a 61st ever", Situations::sixtyEntries, x -> x.entry(2, 1, 1, 5, 0), FULL);
        Issuer x = Situations.full();
        x.remove(11);
        s.is("a 12th there", x.entry(1, 1, 1, 5, 0), 12);
    }

    private void removed() {
        s = book.sentence("Promise 5: remove", "Entry e is not there any more (agents keep what they have of it till they "
            + "sync; its number is not given again);");
        Issuer x = Issuer.withIds(64, 3);
        x.entry(2, 1, 1, 20, 1);
        x.entry(3, 2, 1, 20, 2);
        x.attest(1, 0);
        x.sync(0);
        s.is("the last one", x.remove(1), true);
        s.is("the agent keeps it", x.fetch(0, 1), 2);
        s.is("its serial", x.svid(1, 1), 2);
        s.is("its number is not given again", x.entry(3, 2, 1, 20, 2), 2);
        s.is("one is new", x.sync(0), 1);
        s.is("two are kept", x.fetch(0, 1), 2);
        s.is("the first", x.svid(0, 0), 0);
        s.is("the new one", x.svid(1, 0), 2);
        s.is("the first goes", x.remove(0), true);
        s.is("with it what hangs on it", x.sync(0), 0);
        s.is("nothing is left", x.fetch(0, 1), DENIED);
        s.is("entry 2 is there, though nobody has it", x.remove(2), true);

        s = book.sentence("Promise 5: remove", "false when it is not there.");
        Issuer y = Issuer.withIds(64, 2);
        s.is("none was made", y.remove(0), false);
        y.entry(2, 1, 1, 5, 0);
        s.is("entry 1", y.remove(1), false);
        s.is("entry -1", y.remove(-1), false);
        s.is("entry 0", y.remove(0), true);
        s.is("entry 0 again", y.remove(0), false);
        for (int e : new int[] {4, 5, -1, 60, Integer.MIN_VALUE, Integer.MAX_VALUE}) {
            s.refused("entry " + e, Situations::busy, z -> z.remove(e), false);
        }
        for (int e : new int[] {57, 60}) {
            s.refused("entry " + e + " of 58 and 59", Situations::sixtyEntries, z -> z.remove(e), false);
        }
        s.is("entry 58 of them", Situations.sixtyEntries().remove(58), true);
        s.is("entry 59 of them", Situations.sixtyEntries().remove(59), true);
    }

    private void foreign() {
        s = book.sentence("Promise 6: foreign", "A foreign bundle (0 .. 3) is there from now on, or not; false, changing "
            + "nothing, when it is so already, or there is no such number (agents hear of it when they sync).");
        for (int k = 0; k < 4; k++) {
            Issuer x = Issuer.withIds(64, 2);
            x.entry(2, 1, 1, 60, 15);
            x.attest(1, 0);
            s.is(k + " is not there", x.foreign(k, false), false);
            s.is(k + " comes", x.foreign(k, true), true);
            x.sync(0);
            s.is(k + " is there", x.foreign(k, true), false);
            x.fetch(0, 1);
            s.is("the agent has heard of " + k, x.friends(), 1 << k);
            s.is(k + " goes", x.foreign(k, false), true);
            x.fetch(0, 1);
            s.is("the agent has not heard that " + k + " is gone", x.friends(), 1 << k);
            x.sync(0);
            x.fetch(0, 1);
            s.is("now it has", x.friends(), 0);
        }
        s.refused("0 is there already", Situations::busy, x -> x.foreign(0, true), false);
        s.refused("3 is not there already", Situations::busy, x -> x.foreign(3, false), false);
        for (int k : new int[] {-1, 4, 32, 34, -32, Integer.MIN_VALUE, Integer.MAX_VALUE}) {
            s.refused("bundle " + k + " comes", Situations::busy, x -> x.foreign(k, true), false);
            s.refused("bundle " + k + " goes", Situations::busy, x -> x.foreign(k, false), false);
        }
    }
}
