/** Promises 4 (entry), 5 (remove) and 6 (foreign). */
public final class EntryTest {
    private static final Due due = new Due();
    private static final int MISSING = IdentityIssuer.MISSING;
    private static final int WRONG = IdentityIssuer.WRONG;
    private static final int FULL = IdentityIssuer.FULL;

    public static void main(String[] args) {
        ordinary();
        missingBeforeWrong();
        wrongNames();
        wrongNumbers();
        twelveThere();
        sixtyEver();
        removed();
        foreignBundles();
        due.end();
    }

    private static void ordinary() {
        Issuer x = Issuer.withIds(64, 2);
        due.is("the first", x.entry(1, 0, 1, 1, 0), 0);
        due.is("the same again", x.entry(1, 0, 1, 1, 0), 1);
        due.is("its own parent", x.entry(1, 1, 65535, 64, 15), 2);
        due.is("another parent", x.entry(1, 2, 32768, 64, 0), 3);
    }

    private static void missingBeforeWrong() {
        Issuer x = new Issuer(64);
        due.is("no IDs", x.entry(0, 0, 1, 1, 0), MISSING);
        x = Issuer.withIds(64, 2);
        due.is("id 3", x.entry(3, 0, 1, 1, 0), MISSING);
        due.is("parent 3", x.entry(1, 3, 1, 1, 0), MISSING);
        due.is("id -1", x.entry(-1, 0, 1, 1, 0), MISSING);
        due.is("parent -1", x.entry(1, -1, 1, 1, 0), MISSING);
        due.is("id min", x.entry(Integer.MIN_VALUE, 0, 1, 1, 0), MISSING);
        due.is("id max", x.entry(Integer.MAX_VALUE, 0, 1, 1, 0), MISSING);
        due.is("id 0 with a missing parent", x.entry(0, 3, 0, 0, -1), MISSING);
        due.is("a missing id with wrong numbers", x.entry(12, 0, 0, 0, -1), MISSING);
        due.is("nothing was made", x.entry(1, 0, 1, 1, 0), 0);
    }

    private static void wrongNames() {
        Issuer x = new Issuer(64);
        String[] names = {"spiffe://o/s", "spiffe://o", "spiffe://o/a", "spiffe://p/a", "spiffe://oo/a", "spiffe://p"};
        for (String name : names) {
            x.id(name);
        }
        due.is("id 0, with a path", x.entry(0, 0, 1, 1, 0), WRONG);
        due.is("id without a path", x.entry(1, 0, 1, 1, 0), WRONG);
        due.is("id of another domain", x.entry(3, 0, 1, 1, 0), WRONG);
        due.is("id of a longer domain", x.entry(4, 0, 1, 1, 0), WRONG);
        due.is("parent of another domain", x.entry(2, 3, 1, 1, 0), WRONG);
        due.is("parent of a longer domain", x.entry(2, 4, 1, 1, 0), WRONG);
        due.is("parent of another domain, no path", x.entry(2, 5, 1, 1, 0), WRONG);
        due.is("parent without a path", x.entry(2, 1, 1, 1, 0), 0);
        due.is("parent 0", x.entry(2, 0, 1, 1, 0), 1);
    }

    private static void wrongNumbers() {
        Issuer x = Issuer.withIds(64, 2);
        due.is("selectors 0", x.entry(1, 0, 0, 1, 0), WRONG);
        due.is("selectors 65536", x.entry(1, 0, 65536, 1, 0), WRONG);
        due.is("selectors -1", x.entry(1, 0, -1, 1, 0), WRONG);
        due.is("ttl 0", x.entry(1, 0, 1, 0, 0), WRONG);
        due.is("ttl 65", x.entry(1, 0, 1, 65, 0), WRONG);
        due.is("friends -1", x.entry(1, 0, 1, 1, -1), WRONG);
        due.is("friends 16", x.entry(1, 0, 1, 1, 16), WRONG);
        due.is("all at their ends", x.entry(1, 0, 65535, 64, 15), 0);
    }

    private static void twelveThere() {
        Issuer x = Issuer.withIds(64, 2);
        for (int e = 0; e < 12; e++) {
            due.is("entry " + e, x.entry(1, 2, 1, 1, 0), e);
        }
        due.is("a 13th", x.entry(1, 2, 1, 1, 0), FULL);
        due.is("a wrong 13th", x.entry(1, 2, 0, 1, 0), WRONG);
        due.is("a missing 13th", x.entry(3, 2, 1, 1, 0), MISSING);
        due.is("remove", x.remove(5), true);
        due.is("room again", x.entry(1, 2, 1, 1, 0), 12);
        due.is("full again", x.entry(1, 2, 1, 1, 0), FULL);
    }

    private static void sixtyEver() {
        Issuer x = Issuer.withIds(64, 2);
        for (int e = 0; e < 60; e++) {
            due.is("entry " + e, x.entry(1, 2, 1, 1, 0), e);
            due.is("remove " + e, x.remove(e), true);
        }
        due.is("a 61st", x.entry(1, 2, 1, 1, 0), FULL);
        due.is("remove it", x.remove(60), false);
    }

    private static void removed() {
        Issuer x = Issuer.withIds(64, 2);
        due.is("none there", x.remove(0), false);
        x.entry(1, 2, 1, 8, 0);
        x.entry(1, 2, 2, 8, 0);
        due.is("remove -1", x.remove(-1), false);
        due.is("remove 2", x.remove(2), false);
        x.attest(2, 0);
        due.is("both issued", x.sync(0), 2);
        due.is("remove 0", x.remove(0), true);
        due.is("remove 0 again", x.remove(0), false);
        due.is("the agent keeps it", x.fetch(0, 3), 2);
        due.is("nothing to issue", x.sync(0), 0);
        due.is("till it syncs", x.fetch(0, 3), 1);
        due.is("the other one", x.svid(0, 0), 1);
        due.is("the next number", x.entry(1, 2, 1, 8, 0), 2);
        due.is("remove 1", x.remove(1), true);
        due.is("a new one for the new entry", x.sync(0), 1);
        x.fetch(0, 3);
        due.is("its entry", x.svid(0, 0), 2);
        due.is("its serial", x.svid(0, 1), 3);
    }

    private static void foreignBundles() {
        Issuer x = Issuer.withIds(64, 2);
        for (int k = 0; k < 4; k++) {
            due.is("not there " + k, x.foreign(k, false), false);
            due.is("there " + k, x.foreign(k, true), true);
            due.is("there already " + k, x.foreign(k, true), false);
        }
        for (int k : new int[] {-1, 4, 31, 32, Integer.MIN_VALUE, Integer.MAX_VALUE}) {
            due.is("no bundle " + k, x.foreign(k, true), false);
            due.is("no bundle " + k, x.foreign(k, false), false);
        }
        due.is("1 goes", x.foreign(1, false), true);
        due.is("1 is gone", x.foreign(1, false), false);
        x.entry(1, 2, 1, 64, 15);
        x.attest(2, 0);
        x.sync(0);
        x.fetch(0, 1);
        due.is("0, 2 and 3", x.friends(), 13);
        x.foreign(0, false);
        x.foreign(1, true);
        x.fetch(0, 1);
        due.is("the agent has not heard of it", x.friends(), 13);
        due.is("sync", x.sync(0), 0);
        due.is("the latest response stays", x.friends(), 13);
        x.fetch(0, 1);
        due.is("1, 2 and 3", x.friends(), 14);
    }
}
