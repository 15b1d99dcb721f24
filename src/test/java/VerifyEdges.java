import java.util.Arrays;
import java.util.function.Supplier;

/** The edges of promise 16 (verify), sentence by sentence. */
final class VerifyEdges {
    private static final int EXPIRED = IdentityIssuer.EXPIRED;
    private static final int UNKNOWN = IdentityIssuer.UNKNOWN;
    private static final int FORGED = IdentityIssuer.FORGED;
    private static final String PROMISE = "Promise 16: verify";
    private static final String ID = "spiffe://o/2";

    private final Book book;
    private Sentence s;

    VerifyEdges(Book book) {
        this.book = book;
    }

    void run() {
        usesTheBuffer();
        bytesFromTheFront();
        numbers();
        ids();
        lengths();
        unknown();
        forged();
        expired();
    }

    private void is(String what, int[] bytes, int want) {
        s.is(what, new Issuer(64).verify(bytes), want);
    }

    private void refused(String what, Supplier<Issuer> situation, int[] bytes, int want) {
        s.refused(what, situation, x -> x.verify(bytes), want);
    }

    private static int[] right() {
        return Forge.certificate(1, 0, 0, 99, ID);
    }

    private static int[] with(int[] bytes, int place, int value) {
        int[] changed = bytes.clone();
        changed[place] = value;
        return changed;
    }

    private void usesTheBuffer() {
        s = book.sentence(PROMISE, "Uses the buffer: its bytes must be a certificate.");
        Issuer x = new Issuer(64);
        s.is("a certificate", x.verify(right()), 1);
        s.is("used up", x.verify(), -1);
        s.is("cut", x.verify(Arrays.copyOf(right(), 12)), -1 - 12);
        s.is("used up, too", x.verify(right()), 1);
        s.is("unknown", x.verify(Forge.certificate(1, 1, 0, 99, ID)), UNKNOWN);
        s.is("used up, too", x.verify(right()), 1);
        s.is("forged", x.verify(with(right(), 6, 2)), FORGED);
        s.is("used up, too", x.id(), -1);
        s.is("expired", x.verify(Forge.certificate(1, 0, 1, 99, ID)), EXPIRED);
        s.is("used up, too", x.id("spiffe://o"), 0);
        refused("a right certificate changes nothing, too", Situations::idle, right(), 1);
        refused("nor does one of a serial to come", Situations::idle, Forge.certificate(1000, 0, 0, 99, ID), 1000);
    }

    private void bytesFromTheFront() {
        s = book.sentence(PROMISE, "Answers its serial; -1 - the place of the first error, reading from the front: a byte that "
            + "is not as said, or behind the last one, if some are missing;");
        int[] bytes = Forge.certificate(300, 0, 0, 70000, ID);
        is("its serial", bytes, 300);
        for (int n = 0; n < bytes.length; n++) {
            // The length of the ID, at place 20, is the error when some of its 12 characters are missing.
            boolean inId = n > 20 && n < 33;
            is("the first " + n, Arrays.copyOf(bytes, n), inId ? -1 - 20 : -1 - n);
        }
        int[] ends = {0, 2, 4, 8, 11, 14, 19, 33, 34, 35, 36, 37};
        for (int place : ends) {
            is("one more at " + place, with(bytes, place, bytes[place] + 1), -1 - place);
            is("one less at " + place, with(bytes, place, bytes[place] - 1), -1 - place);
            is("two errors, the first at " + place, with(with(bytes, place, 49), 37, 3), -1 - place);
        }
        is("an error and a wrong length", with(with(with(bytes, 1, 0), 3, 0), 37, 3), -1 - 37);
        refused("an empty buffer", Situations::idle, new int[0], -1);
        refused("a byte that is not as said", Situations::idle, with(right(), 33, 127), -1 - 33);
        refused("a byte that is missing", Situations::idle, Arrays.copyOf(right(), right().length - 1),
            -1 - (right().length - 1));
    }

    private static int[] withSerial(int... number) {
        int[] body = Forge.body(number, Forge.number(0), Forge.number(0), Forge.number(99), ID);
        return Forge.around(body, Forge.number(Forge.sign(body, 0)));
    }

    private static int[] withNumber(int which, int... number) {
        int[][] numbers = {Forge.number(1), Forge.number(0), Forge.number(0), Forge.number(99), Forge.number(1)};
        numbers[which] = number;
        return Forge.around(Forge.body(numbers[0], numbers[1], numbers[2], numbers[3], ID), numbers[4]);
    }

    private void numbers() {
        s = book.sentence(PROMISE, "of a NUMBER its length when that is not 1 .. 4, its first byte when that is above 127 or "
            + "(when all of it was read) is not needed;");
        is("length 1", withSerial(2, 1, 5), 5);
        is("length 4", withSerial(2, 4, 127, 255, 255, 255), Integer.MAX_VALUE);
        is("first byte 127", withSerial(2, 1, 127), 127);
        is("0 alone", withSerial(2, 1, 0), 0);
        is("0 needed before 128", withSerial(2, 2, 0, 128), 128);
        is("0 needed before 255, in four bytes", withSerial(2, 4, 0, 255, 0, 0), 255 << 16);
        int[] places = {4, 7, 10, 13, 34};
        for (int which = 0; which < 5; which++) {
            int at = places[which];
            is("length 0 of " + which, withNumber(which, 2, 0), -1 - (at + 1));
            is("length 5 of " + which, withNumber(which, 2, 5, 1, 1, 1, 1, 1), -1 - (at + 1));
            is("length 255 of " + which, withNumber(which, 2, 255, 1), -1 - (at + 1));
            is("first byte 128 of " + which, withNumber(which, 2, 1, 128), -1 - (at + 2));
            is("first byte 255 of " + which, withNumber(which, 2, 4, 255, 255, 255, 255), -1 - (at + 2));
            is("0 not needed before 127 of " + which, withNumber(which, 2, 2, 0, 127), -1 - (at + 2));
            is("0 not needed before 0 of " + which, withNumber(which, 2, 2, 0, 0), -1 - (at + 2));
            is("0 not needed in four bytes of " + which, withNumber(which, 2, 4, 0, 127, 255, 255), -1 - (at + 2));
            int[] front = Arrays.copyOf(withNumber(4, 2, 1, 1), at);
            is("cut, a length of 5, of " + which, Forge.join(front, new int[] {2, 5}), -1 - (at + 1));
            is("cut behind its length, of " + which, Forge.join(front, new int[] {2, 4}), -1 - (at + 2));
            is("cut, first byte 0, of " + which, Forge.join(front, new int[] {2, 2, 0}), -1 - (at + 3));
            is("cut, first byte not needed, of " + which, Forge.join(front, new int[] {2, 3, 0, 0}), -1 - (at + 4));
            is("cut, first byte above 127, of " + which, Forge.join(front, new int[] {2, 3, 128, 0}), -1 - (at + 2));
        }
        refused("length 5", Situations::idle, withNumber(0, 2, 5, 1, 1, 1, 1, 1), -1 - 5);
        refused("first byte 128", Situations::idle, withNumber(1, 2, 1, 128), -1 - 9);
        refused("first byte not needed", Situations::idle, withNumber(4, 2, 2, 0, 127), -1 - 36);
    }

    private void id(String text, int place) {
        is("ID " + text, Forge.certificate(1, 0, 0, 99, text), -1 - (18 + place));
    }

    private void ids() {
        s = book.sentence(PROMISE, "the length of the ID when it is more than the bytes that are left, and the ID's own first "
            + "error;");
        int[] bytes = right();
        int left = bytes.length - 18;
        is("as long as what is left", with(bytes, 17, left), -1 - 30);
        is("longer than what is left", with(bytes, 17, left + 1), -1 - 17);
        is("length 255", with(bytes, 17, 255), -1 - 17);
        is("length 3, as the byte behind an ID, with two left", Forge.join(Arrays.copyOf(bytes, 17), new int[] {3, 2, 7}),
            -1 - 17);
        is("nothing is left, length 0", with(Arrays.copyOf(bytes, 18), 17, 0), -1 - 18);
        is("nothing is left, length 1", with(Arrays.copyOf(bytes, 18), 17, 1), -1 - 17);
        is("one character is left, length 1", with(Arrays.copyOf(bytes, 19), 17, 1), -1 - 19);
        is("all of the ID is left and no more", Arrays.copyOf(bytes, 30), -1 - 30);
        is("one character less", Arrays.copyOf(bytes, 29), -1 - 17);
        is("one longer, into what follows", with(bytes, 17, 13), -1 - 30);
        is("one shorter, it ends behind its slash", with(bytes, 17, 11), -1 - 29);
        is("two shorter, then no 3 follows", with(bytes, 17, 10), -1 - 28);
        id("", 0);
        id("spiffe://", 9);
        id("spiffe://1234567890123", 21);
        id("spiffe://o/", 11);
        id("spiffe://o/..", 11);
        id("spiffe://o/x/.", 13);
        id("spiffe://o/x y", 12);
        id("spiffe://o/" + "x".repeat(30), 40);
        id("spiffe://o/" + "x".repeat(27) + "/.", 39);
        id("spiffe://o/" + "x".repeat(27) + "/..x", 40);
        is("40 characters", Forge.certificate(1, 0, 0, 99, "spiffe://o/" + "x".repeat(29)), 1);
        is("a domain of 12", Forge.certificate(1, 0, 0, 99, "spiffe://123456789012"), 1);
        is("it ends in its scheme, though the right characters follow", with(bytes, 17, 5), -1 - 23);
        is("a letter behind the ID is none of its last segment", with(Forge.certificate(1, 0, 0, 99, "spiffe://o/."), 30, 'x'),
            -1 - 29);
        is("a dot behind the ID is none, too", with(Forge.certificate(1, 0, 0, 99, "spiffe://o/.."), 31, '.'), -1 - 29);
        refused("an ID that is too long", Situations::idle, with(bytes, 17, left + 1), -1 - 17);
        refused("an ID with an error", Situations::idle, Forge.certificate(1, 0, 0, 99, "spiffe://o/."), -1 - 29);
        refused("an ID that was never read", Situations::idle, Forge.certificate(1, 0, 0, 99, "spiffe://o/y"), 1);
        refused("an ID that was never read, when IDs are full", Situations::full,
            Forge.certificate(1, 0, 0, 99, "spiffe://q/y"), 1);
    }

    private void lengths() {
        s = book.sentence(PROMISE, "then, when all was read, place 3 when the body's length is not as said, else the first byte "
            + "that is too much, else place 1 when the length there is not as said.");
        int[] bytes = right();
        int length = bytes.length;
        int[] more = Forge.join(bytes, new int[] {2});
        int[] full = Forge.join(bytes, new int[100 - length]);
        for (int wrong : new int[] {bytes[3] - 1, bytes[3] + 1, 0, 255}) {
            is("the body's length " + wrong, with(bytes, 3, wrong), -1 - 3);
            is("the body's length " + wrong + ", and a byte too much", with(more, 3, wrong), -1 - 3);
            is("the body's length " + wrong + ", and the length", with(with(bytes, 1, 0), 3, wrong), -1 - 3);
        }
        is("a byte too much", more, -1 - length);
        is("a byte too much that is counted", with(more, 1, length - 1), -1 - length);
        is("as many too much as there is room for", full, -1 - length);
        is("a byte too much, and the length", with(more, 1, 0), -1 - length);
        for (int wrong : new int[] {bytes[1] - 1, bytes[1] + 1, 0, 255}) {
            is("the length " + wrong, with(bytes, 1, wrong), -1 - 1);
        }
        is("the length, before all that is behind", with(Forge.certificate(1, 3, 5, 5, ID), 1, 0), -1 - 1);
        refused("the body's length", Situations::idle, with(bytes, 3, 0), -1 - 3);
        refused("a full buffer", Situations::idle, full, -1 - length);
        refused("the length", Situations::idle, with(bytes, 1, 0), -1 - 1);
    }

    private void unknown() {
        s = book.sentence(PROMISE, "Otherwise UNKNOWN when its key is not in the bundle;");
        Issuer x = new Issuer(32);
        x.tick(1);
        x.prepare();
        s.is("key 0", x.verify(Forge.certificate(1, 0, 0, 99, ID)), 1);
        s.is("key 1, prepared", x.verify(Forge.certificate(1, 1, 0, 99, ID)), 1);
        for (int key : new int[] {2, 4, 5, 127, 128, 65536, Integer.MAX_VALUE}) {
            s.is("key " + key, x.verify(Forge.certificate(1, key, 0, 99, ID)), UNKNOWN);
        }
        x.tick(30);
        s.is("key 0 at 31", x.verify(Forge.certificate(1, 0, 0, 99, ID)), 1);
        x.tick(1);
        s.is("key 0 at 32", x.verify(Forge.certificate(1, 0, 0, 99, ID)), UNKNOWN);
        s.is("key 1 at 32", x.verify(Forge.certificate(1, 1, 0, 99, ID)), 1);
        x.tick(1);
        s.is("key 1 at 33", x.verify(Forge.certificate(1, 1, 0, 99, ID)), UNKNOWN);
        s.is("forged and expired, too", x.verify(with(Forge.certificate(1, 1, 0, 9, ID), 6, 2)), UNKNOWN);
        refused("key 3", Situations::idle, Forge.certificate(1, 3, 0, 99, ID), UNKNOWN);
        refused("a key that is over", Situations::expired, Forge.certificate(1, 1, 0, 99, ID), UNKNOWN);
    }

    private void forged() {
        s = book.sentence(PROMISE, "FORGED;");
        int[] body = Forge.body(Forge.number(1), Forge.number(0), Forge.number(0), Forge.number(99), ID);
        long signature = Forge.sign(body, 0);
        is("right", Forge.around(body, Forge.number(signature)), 1);
        is("one more", Forge.around(body, Forge.number(signature + 1)), FORGED);
        is("one less", Forge.around(body, Forge.number(signature - 1)), FORGED);
        is("N more", Forge.around(body, Forge.number(signature + Forge.modulus(0))), FORGED);
        is("another serial", with(right(), 6, 2), FORGED);
        is("another start, which is expired", with(right(), 12, 1), FORGED);
        is("another end, which is expired", with(right(), 15, 0), FORGED);
        is("another ID", with(right(), 29, '3'), FORGED);
        refused("forged", Situations::idle, with(right(), 6, 2), FORGED);
    }

    private void expired() {
        s = book.sentence(PROMISE, "EXPIRED when the clock is below its start or not below its end.");
        Issuer x = new Issuer(64);
        x.tick(9);
        int[][] times = {{9, 10}, {8, 10}, {0, 10}, {9, Integer.MAX_VALUE}, {10, 11}, {9, 9}, {8, 9}, {0, 0}, {10, 9},
            {10, 8}, {Integer.MAX_VALUE, Integer.MAX_VALUE}};
        for (int i = 0; i < times.length; i++) {
            int[] bytes = Forge.certificate(7, 0, times[i][0], times[i][1], ID);
            s.is("at 9, " + times[i][0] + " .. " + times[i][1], x.verify(bytes), i < 4 ? 7 : EXPIRED);
        }
        refused("its start is to come", Situations::idle, Forge.certificate(7, 0, 6, 9, ID), EXPIRED);
        refused("its end has come", Situations::idle, Forge.certificate(7, 0, 0, 5, ID), EXPIRED);
    }
}
