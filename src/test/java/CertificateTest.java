import java.util.Arrays;

/** Promises 15 (written) and 16 (verify). */
public final class CertificateTest {
    private static final Due due = new Due();
    private static final int MISSING = IdentityIssuer.MISSING;
    private static final int EXPIRED = IdentityIssuer.EXPIRED;
    private static final int UNKNOWN = IdentityIssuer.UNKNOWN;
    private static final int FORGED = IdentityIssuer.FORGED;
    private static final String ID = "spiffe://o/2";

    public static void main(String[] args) {
        knownBytes();
        writtenLikeForged();
        writtenAsIssued();
        longestCertificate();
        whatIsWrittenIsRight();
        everyCut();
        everyChangedByte();
        fixedBytes();
        numbers();
        idErrors();
        lengthsAtTheEnd();
        keysOfTheBundle();
        signatures();
        times();
        orderOfRefusals();
        due.end();
    }

    private static Issuer issuer(int life) {
        Issuer x = Issuer.withIds(life, 2);
        x.entry(2, 1, 1, 9, 0);
        x.attest(1, 0);
        x.sync(0);
        x.fetch(0, 1);
        return x;
    }

    private static void verify(String what, int[] bytes, int want) {
        Issuer x = new Issuer(64);
        due.is(what, x.verify(bytes), want);
        due.is("the buffer is empty after " + what, x.verify(), -1);
    }

    private static void same(String what, int[] got, int[] want) {
        due.text(what, Arrays.toString(got), Arrays.toString(want));
    }

    private static void knownBytes() {
        Issuer x = issuer(32);
        int[] front = {48, 38, 48, 30, 2, 1, 1, 2, 1, 0, 2, 1, 0, 2, 1, 9, 134, 12, 's', 'p', 'i', 'f', 'f', 'e',
            ':', '/', '/', 'o', '/', '2', 3, 2, 7, 128, 2, 4};
        same("the front", Arrays.copyOf(x.written(0), 36), front);
        due.is("no byte -1", x.written(0, -1), MISSING);
        due.is("no byte 40", x.written(0, 40), MISSING);
        due.is("no byte max", x.written(0, Integer.MAX_VALUE), MISSING);
        due.is("no certificate 1", x.written(1, 0), MISSING);
        due.is("no certificate -1", x.written(-1, 0), MISSING);
    }

    private static void writtenLikeForged() {
        Issuer x = Issuer.withIds(256, 2);
        x.entry(2, 1, 1, 64, 0);
        x.entry(1, 1, 1, 63, 0);
        x.attest(1, 0);
        for (int round = 0; round < 9; round++) {
            x.sync(0);
            x.fetch(0, 1);
            int k = round % 2;
            int[] want = Forge.certificate(x.svid(k, 1), x.svid(k, 2), x.svid(k, 3), x.svid(k, 4),
                k == 0 ? ID : "spiffe://o/1");
            same("round " + round + ", certificate " + k, x.written(k), want);
            x.prepare();
            x.activate();
            x.tick(round == 0 ? 63 : 64);
        }
        due.is("more than four keys were used", x.svid(0, 2) > 4, true);
    }

    private static void writtenAsIssued() {
        Issuer x = issuer(32);
        int[] first = x.written(0);
        x.remove(0);
        x.prepare();
        x.activate();
        x.tick(8);
        x.fetch(0, 1);
        same("later", x.written(0), first);
        x.entry(1, 1, 1, 9, 0);
        x.sync(0);
        same("the latest stays", x.written(0), first);
        x.fetch(0, 1);
        same("another one", x.written(0), Forge.certificate(2, 1, 8, 17, "spiffe://o/1"));
        x.fetch(0, 2);
        due.is("denied", x.written(0, 0), MISSING);
    }

    private static void longestCertificate() {
        Issuer x = new Issuer(256);
        x.id("spiffe://o");
        String longest = "spiffe://o/" + "x".repeat(29);
        x.id(longest);
        for (int i = 0; i < 12; i++) {
            x.entry(1, 1, 1, 64, 0);
        }
        for (int i = 0; i < 12; i++) {
            x.tick(64);
            x.attest(1, 0);
            x.prepare();
            x.activate();
            x.sync(0);
        }
        x.fetch(0, 1);
        due.is("serial", x.svid(11, 1), 144);
        int[] bytes = x.written(11);
        same("numbers of two bytes", bytes, Forge.certificate(144, x.svid(11, 2), 768, 832, longest));
        due.is("verify", x.verify(bytes), 144);
    }

    private static void whatIsWrittenIsRight() {
        Issuer x = issuer(32);
        int[] bytes = x.written(0);
        due.is("its serial", x.verify(bytes), 1);
        x.tick(8);
        due.is("near its end", x.verify(bytes), 1);
        x.tick(1);
        due.is("at its end", x.verify(bytes), EXPIRED);
        x.tick(23);
        due.is("its key has ended", x.verify(bytes), UNKNOWN);
        due.is("any serial", new Issuer(64).verify(Forge.certificate(2147483647, 0, 0, 1, ID)),
            2147483647);
        due.is("an empty buffer", x.verify(new int[0]), -1);
        verify("an ID that was never read", Forge.certificate(5, 0, 0, 1, "spiffe://other.org"), 5);
        verify("serial 0", Forge.certificate(0, 0, 0, 1, ID), 0);
    }

    private static void everyCut() {
        int[] bytes = Forge.certificate(300, 0, 0, 70000, ID);
        for (int n = 0; n < bytes.length; n++) {
            boolean inId = n > 20 && n < 33;
            verify("the first " + n, Arrays.copyOf(bytes, n), inId ? -1 - 20 : -1 - n);
        }
        due.is("the length of the ID stands at", bytes[20], 12);
        verify("all", bytes, 300);
    }

    private static void everyChangedByte() {
        int[] bytes = Forge.certificate(300, 0, 0, 70000, ID);
        for (int p = 0; p < bytes.length; p++) {
            int[] changed = bytes.clone();
            changed[p] ^= 1;
            Issuer x = new Issuer(64);
            int answer = x.verify(changed);
            due.is("changed at " + p + ", answers " + answer, answer < 0, true);
        }
    }

    private static int[] with(int[] bytes, int place, int value) {
        int[] changed = bytes.clone();
        changed[place] = value;
        return changed;
    }

    private static void fixedBytes() {
        int[] bytes = Forge.certificate(1, 0, 0, 9, ID);
        for (int place : new int[] {0, 2, 4, 7, 10, 13, 16, 30, 31, 32, 33, 34}) {
            verify("another byte at " + place, with(bytes, place, 49), -1 - place);
            verify("two errors, the first at " + place, with(with(bytes, place, 49), 34, 1), -1 - place);
        }
        int[] lengthsToo = with(with(with(bytes, 1, 0), 3, 255), 33, 129);
        verify("lengths are looked at last", lengthsToo, -1 - 33);
    }

    private static int[] withSerial(int... number) {
        return Forge.around(Forge.body(number, Forge.number(0), Forge.number(0), Forge.number(9), ID),
            Forge.number(1));
    }

    private static int[] withSignature(int... number) {
        int[] body = Forge.body(Forge.number(1), Forge.number(0), Forge.number(0), Forge.number(9), ID);
        return Forge.around(body, number);
    }

    private static void numbers() {
        verify("length 0", withSerial(2, 0), -1 - 5);
        verify("length 5", withSerial(2, 5, 1, 1, 1, 1, 1), -1 - 5);
        verify("length 255", withSerial(2, 255, 1), -1 - 5);
        verify("first byte 128", withSerial(2, 1, 128), -1 - 6);
        verify("first byte 255", withSerial(2, 4, 255, 0, 0, 0), -1 - 6);
        verify("first byte 127", withSerial(2, 4, 127, 255, 255, 255), FORGED);
        verify("0 is not needed before 127", withSerial(2, 2, 0, 127), -1 - 6);
        verify("0 is needed before 128", withSerial(2, 2, 0, 128), FORGED);
        verify("0 before 0", withSerial(2, 2, 0, 0), -1 - 6);
        verify("0 before 0 and 255", withSerial(2, 3, 0, 0, 255), -1 - 6);
        verify("0 in four bytes", withSerial(2, 4, 0, 255, 255, 255), FORGED);
        verify("0 alone", withSerial(2, 1, 0), FORGED);
        int[] front = {48, 9, 48, 9, 2};
        verify("cut, first byte not needed", Forge.join(front, new int[] {3, 0, 0}), -1 - 8);
        verify("cut, first byte above 127", Forge.join(front, new int[] {3, 128, 0}), -1 - 6);
        verify("cut behind the length", Forge.join(front, new int[] {3}), -1 - 6);
        verify("cut at a wrong length", Forge.join(front, new int[] {9}), -1 - 5);
        verify("signature: length 0", withSignature(2, 0), -1 - 35);
        verify("signature: length 5", withSignature(2, 5, 1, 1, 1, 1, 1), -1 - 35);
        verify("signature: not needed", withSignature(2, 2, 0, 1), -1 - 36);
        verify("signature: above 127", withSignature(2, 1, 200), -1 - 36);
        verify("signature: cut", withSignature(2, 4, 1, 1), -1 - 38);
        verify("signature: another tag", withSignature(3, 1, 1), -1 - 34);
    }

    private static void withId(String id, int place) {
        verify("ID " + id, Forge.certificate(1, 0, 0, 9, id), -1 - 18 - place);
    }

    private static void idErrors() {
        withId("", 0);
        withId("spiffe://", 9);
        withId("spiffe://o/", 11);
        withId("spiffe://o/.", 11);
        withId("spiffe://o/..", 11);
        withId("spiffe://o//x", 11);
        withId("spiffe://O", 9);
        withId("spiffe://1234567890123", 21);
        withId("spiffe://o/" + "x".repeat(30), 40);
        withId("spiffe://o/" + "x".repeat(27) + "/./", 39);
        verify("40 characters", Forge.certificate(1, 0, 0, 9, "spiffe://o/" + "x".repeat(29)), 1);
        int[] bytes = Forge.certificate(1, 0, 0, 9, ID);
        int left = bytes.length - 18;
        verify("as many as are left", with(bytes, 17, left), -1 - 30);
        verify("more than are left", with(bytes, 17, left + 1), -1 - 17);
        verify("255", with(bytes, 17, 255), -1 - 17);
        verify("one less", with(bytes, 17, 11), -1 - 29);
        verify("it ends in its scheme, though the right characters follow", with(bytes, 17, 5), -1 - 23);
        verify("a length like the byte behind the ID", Forge.join(Arrays.copyOf(bytes, 17), new int[] {3, 2, 7}),
            -1 - 17);
        verify("one more", with(bytes, 17, 13), -1 - 30);
    }

    private static void lengthsAtTheEnd() {
        int[] bytes = Forge.certificate(1, 0, 0, 9, ID);
        int[] more = Forge.join(bytes, new int[] {7, 7});
        verify("the body's length", with(bytes, 3, 31), -1 - 3);
        verify("the body's length 0", with(bytes, 3, 0), -1 - 3);
        verify("too much", more, -1 - bytes.length);
        verify("too much, also for the length", with(more, 1, bytes[1] + 2), -1 - bytes.length);
        verify("the length", with(bytes, 1, bytes[1] - 1), -1 - 1);
        verify("the length 0", with(bytes, 1, 0), -1 - 1);
        verify("all three", with(with(more, 1, 0), 3, 0), -1 - 3);
        verify("too much and the length", with(more, 1, 0), -1 - bytes.length);
        verify("the body's length and the length", with(with(bytes, 1, 0), 3, 0), -1 - 3);
    }

    private static void keysOfTheBundle() {
        Issuer x = new Issuer(32);
        due.is("key 1 is not made", x.verify(Forge.certificate(1, 1, 0, 99, ID)), UNKNOWN);
        x.tick(16);
        x.prepare();
        due.is("a prepared one", x.verify(Forge.certificate(7, 1, 0, 99, ID)), 7);
        due.is("a high number", x.verify(Forge.certificate(7, 2147483647, 0, 99, ID)), UNKNOWN);
        due.is("the same modulus, another key", x.verify(Forge.certificate(7, 4, 0, 99, ID)), UNKNOWN);
        x.activate();
        due.is("an old one", x.verify(Forge.certificate(8, 0, 0, 99, ID)), 8);
        x.tick(15);
        due.is("old at 31", x.verify(Forge.certificate(8, 0, 0, 99, ID)), 8);
        x.tick(1);
        due.is("old at 32", x.verify(Forge.certificate(8, 0, 0, 99, ID)), UNKNOWN);
        due.is("active at 32", x.verify(Forge.certificate(9, 1, 0, 99, ID)), 9);
        x.tick(16);
        due.is("active at 48", x.verify(Forge.certificate(9, 1, 0, 99, ID)), UNKNOWN);
        for (int key = 2; key < 9; key++) {
            x.tick(32);
            due.is("prepare", x.prepare(), key);
            due.is("key " + key, x.verify(Forge.certificate(key, key, 0, 9999, ID)), key);
            due.is("key before", x.verify(Forge.certificate(1, key - 1, 0, 9999, ID)), UNKNOWN);
        }
    }

    private static void signatures() {
        int[] body = Forge.body(Forge.number(1), Forge.number(0), Forge.number(0), Forge.number(9), ID);
        long signature = Forge.sign(body, 0);
        verify("right", Forge.around(body, Forge.number(signature)), 1);
        verify("one more", Forge.around(body, Forge.number(signature + 1)), FORGED);
        verify("zero", Forge.around(body, Forge.number(0)), FORGED);
        verify("by another key", Forge.around(body, Forge.number(Forge.sign(body, 1))), FORGED);
        verify("the same modulo N, but above it",
            Forge.around(body, Forge.number(signature + Forge.modulus(0))), FORGED);
        int serial = serialWithLowSignature();
        int[] low = Forge.body(Forge.number(serial), Forge.number(1), Forge.number(0), Forge.number(9), ID);
        Issuer x = new Issuer(64);
        x.prepare();
        due.is("right by key 1", x.verify(Forge.certificate(serial, 1, 0, 9, ID)), serial);
        due.is("above the modulus of key 1, below that of key 0", x.verify(
            Forge.around(low, Forge.number(Forge.sign(low, 1) + Forge.modulus(1)))), FORGED);
        verify("of another body", Forge.around(
            Forge.body(Forge.number(2), Forge.number(0), Forge.number(0), Forge.number(9), ID),
            Forge.number(signature)), FORGED);
    }

    private static int serialWithLowSignature() {
        int serial = 0;
        long room = Forge.modulus(0) - Forge.modulus(1);
        while (Forge.sign(Forge.body(Forge.number(serial), Forge.number(1), Forge.number(0), Forge.number(9), ID), 1)
            >= room) {
            serial++;
        }
        return serial;
    }

    private static void times() {
        Issuer x = new Issuer(64);
        int[] early = Forge.certificate(1, 0, 5, 7, ID);
        x.tick(4);
        due.is("before its start", x.verify(early), EXPIRED);
        x.tick(1);
        due.is("at its start", x.verify(early), 1);
        x.tick(1);
        due.is("before its end", x.verify(early), 1);
        x.tick(1);
        due.is("at its end", x.verify(early), EXPIRED);
        due.is("no time at all", x.verify(Forge.certificate(1, 0, 7, 7, ID)), EXPIRED);
        due.is("the greatest end", x.verify(Forge.certificate(1, 0, 7, 2147483647, ID)), 1);
    }

    private static void orderOfRefusals() {
        Issuer x = new Issuer(64);
        int[] body = Forge.body(Forge.number(1), Forge.number(1), Forge.number(5), Forge.number(9), ID);
        due.is("unknown, forged, expired", x.verify(Forge.around(body, Forge.number(1))), UNKNOWN);
        body = Forge.body(Forge.number(1), Forge.number(0), Forge.number(5), Forge.number(9), ID);
        due.is("forged, expired", x.verify(Forge.around(body, Forge.number(1))), FORGED);
        due.is("unknown, expired", x.verify(Forge.certificate(1, 3, 5, 9, ID)), UNKNOWN);
        due.is("an error in it", x.verify(with(Forge.certificate(1, 3, 5, 9, ID), 1, 0)), -2);
    }
}
