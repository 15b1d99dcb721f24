import java.util.Arrays;

/** The edges of certificates as they are written and signed: terms, and promise 15 (written). */
final class CertificateEdges {
    private static final int MISSING = IdentityIssuer.MISSING;
    private static final int FORGED = IdentityIssuer.FORGED;
    private static final String ID = "spiffe://o/2";
    private static final String NUMBER = "A NUMBER: 2, its length 1 .. 4, and its bytes, the highest first, as few as it "
        + "takes so that the first one is below 128.";

    private final Book book;
    private Sentence s;

    CertificateEdges(Book book) {
        this.book = book;
    }

    void run() {
        sums();
        signaturesBelowModulus();
        rightSignatures();
        certificate();
        body();
        signatureNumbers();
        serialNumbers();
        keyNumbers();
        timeNumbers();
        written();
    }

    private void same(String what, int[] got, int[] want) {
        s.is(what, Arrays.toString(got), Arrays.toString(want));
    }

    /** Its latest response is the certificate with serial 1, by the key, from 0 to 9. */
    private static Issuer issued(int key, String id) {
        Issuer x = withKeys(key);
        x.id("spiffe://o");
        x.id(id);
        x.entry(1, 1, 1, 9, 0);
        x.attest(1, 0);
        x.sync(0);
        x.fetch(0, 1);
        return x;
    }

    /** Keys 0 .. key are good, the last one is active. */
    private static Issuer withKeys(int key) {
        Issuer x = new Issuer(64);
        for (int k = 0; k < key; k++) {
            x.prepare();
            x.activate();
        }
        return x;
    }

    private static int[] signed(int key, String id, long signature) {
        int[] body = Forge.body(Forge.number(1), Forge.number(key), Forge.number(0), Forge.number(9), id);
        return Forge.around(body, Forge.number(signature));
    }

    private void sums() {
        s = book.sentence("Terms", "The SUM of bytes is H, which is 1 at first and becomes (H * 257 + b + 1) modulo "
            + "1000000007 for each byte b.");
        for (long sum : new long[] {0, 1, Sums.MODULUS - 1}) {
            String id = Sums.idWithSum(sum, 1, 0, 0, 9);
            int[] bytes = Forge.certificate(1, 0, 0, 9, id);
            s.is("verify a body of sum " + sum, new Issuer(64).verify(bytes), 1);
            same("issue a body of sum " + sum, issued(0, id).written(0), bytes);
        }
        s.is("another serial is another sum", new Issuer(64).verify(with(Forge.certificate(1, 0, 0, 9, ID), 6, 2)), FORGED);
        s.is("so is 0", new Issuer(64).verify(with(Forge.certificate(1, 0, 0, 9, ID), 6, 0)), FORGED);
    }

    private static int[] with(int[] bytes, int place, int value) {
        int[] changed = bytes.clone();
        changed[place] = value;
        return changed;
    }

    private void signaturesBelowModulus() {
        s = book.sentence("Terms", "The SIGNATURE of bytes by a key is H to the power D, modulo N;");
        for (int key = 0; key < 4; key++) {
            long greatest = Forge.modulus(key) - 1;
            while (Sums.sumFor(greatest, key) >= Sums.MODULUS) {
                greatest--;
            }
            for (long signature : new long[] {0, 1, greatest}) {
                String id = Sums.idWithSum(Sums.sumFor(signature, key), 1, key, 0, 9);
                s.is("forged by key " + key, Forge.sign(Arrays.copyOfRange(signed(key, id, 0), 2, 39), key), signature);
                same("signature " + signature + " by key " + key, issued(key, id).written(0), signed(key, id, signature));
            }
        }
    }

    private void rightSignatures() {
        s = book.sentence("Terms", "it is right when it is below N and its power 65537 modulo N is H.");
        for (int key = 0; key < 4; key++) {
            long modulus = Forge.modulus(key);
            String zero = Sums.idWithSum(0, 1, key, 0, 9);
            s.is("0 for sum 0, key " + key, withKeys(key).verify(signed(key, zero, 0)), 1);
            s.is("N for sum 0, key " + key, withKeys(key).verify(signed(key, zero, modulus)), FORGED);
            String one = Sums.idWithSum(1, 1, key, 0, 9);
            s.is("1 for sum 1, key " + key, withKeys(key).verify(signed(key, one, 1)), 1);
            s.is("N - 1 for sum 1, key " + key, withKeys(key).verify(signed(key, one, modulus - 1)), FORGED);
            s.is("N + 1 for sum 1, key " + key, withKeys(key).verify(signed(key, one, modulus + 1)), FORGED);
            s.is("0 for sum 1, key " + key, withKeys(key).verify(signed(key, one, 0)), FORGED);
            s.is("1 for sum 0, key " + key, withKeys(key).verify(signed(key, zero, 1)), FORGED);
            long greatest = modulus - 1;
            while (Sums.sumFor(greatest, key) >= Sums.MODULUS) {
                greatest--;
            }
            String last = Sums.idWithSum(Sums.sumFor(greatest, key), 1, key, 0, 9);
            s.is(greatest + ", just below N, key " + key, withKeys(key).verify(signed(key, last, greatest)), 1);
            s.is("one more, key " + key, withKeys(key).verify(signed(key, last, greatest + 1)), FORGED);
            s.is("the greatest NUMBER, key " + key, withKeys(key).verify(signed(key, last, Integer.MAX_VALUE)), FORGED);
        }
    }

    private void certificate() {
        s = book.sentence("Terms", "CERTIFICATES are bytes: 48, the number of bytes that follow; then the BODY; then the "
            + "signature of the body's bytes (all of them, its 48 included) as a NUMBER.");
        int[] bytes = issued(0, ID).written(0);
        same("the shortest", bytes, Forge.certificate(1, 0, 0, 9, ID));
        s.is("the first byte", bytes[0], 48);
        s.is("how many follow", bytes[1], bytes.length - 2);
        int[] body = Arrays.copyOfRange(bytes, 2, bytes.length - 6);
        same("around the body", Forge.around(body, Forge.number(Forge.sign(body, 0))), bytes);
        int[] inside = Arrays.copyOfRange(body, 1, body.length);
        s.is("signed without its 48", new Issuer(64).verify(Forge.around(body, Forge.number(Forge.sign(inside, 0)))), FORGED);
        int[] more = Arrays.copyOf(bytes, bytes.length - 6);
        s.is("signed with the 48 before it", new Issuer(64).verify(Forge.around(body, Forge.number(Forge.sign(more, 0)))),
            FORGED);
        String longest = "spiffe://o/" + "x".repeat(29);
        same("the longest ID", issued(0, longest).written(0), Forge.certificate(1, 0, 0, 9, longest));
        s.is("the longest ID, verified", new Issuer(64).verify(Forge.certificate(1, 0, 0, 9, longest)), 1);
    }

    private void body() {
        s = book.sentence("Terms", "The BODY: 48, the number of bytes that follow in it; the NUMBERS serial, key, start, end; "
            + "134, the length of an ID and the ID; and 3, 2, 7, 128.");
        Issuer x = Issuer.withIds(64, 2);
        x.entry(2, 1, 1, 9, 0);
        x.entry(2, 1, 1, 10, 0);
        x.prepare();
        x.activate();
        x.tick(5);
        x.attest(1, 0);
        x.sync(0);
        x.fetch(0, 1);
        int[] want = {48, 30, 2, 1, 2, 2, 1, 1, 2, 1, 5, 2, 1, 15, 134, 12, 's', 'p', 'i', 'f', 'f', 'e', ':', '/', '/',
            'o', '/', '2', 3, 2, 7, 128};
        same("serial 2, key 1, start 5, end 15", Arrays.copyOfRange(x.written(1), 2, 34), want);
    }

    private void signatureNumbers() {
        s = book.sentence("Terms", NUMBER);
        int[][] numbers = {{2, 1, 0}, {2, 1, 1}, {2, 1, 127}, {2, 2, 0, 128}, {2, 2, 0, 255}, {2, 2, 1, 0},
            {2, 2, 127, 255}, {2, 3, 0, 128, 0}, {2, 3, 127, 255, 255}, {2, 4, 0, 128, 0, 0}, {2, 4, 1, 0, 0, 0}};
        for (int[] number : numbers) {
            long value = 0;
            for (int p = 2; p < number.length; p++) {
                value = value * 256 + number[p];
            }
            int key = 0;
            while (Sums.sumFor(value, key) >= Sums.MODULUS) {
                key++;
            }
            String id = Sums.idWithSum(Sums.sumFor(value, key), 1, key, 0, 9);
            int[] bytes = issued(key, id).written(0);
            same("signature " + value, Arrays.copyOfRange(bytes, 39, bytes.length), number);
            s.is("verify with signature " + value, withKeys(key).verify(bytes), 1);
        }
        int[] serials = {0, 127, 128, 255, 256, 32767, 32768, 8388607, 8388608, Integer.MAX_VALUE};
        for (int serial : serials) {
            s.is("verify serial " + serial, new Issuer(64).verify(Forge.certificate(serial, 0, 0, 9, ID)), serial);
        }
    }

    private void serialNumbers() {
        s = book.sentence("Terms", NUMBER);
        Issuer x = Issuer.withIds(64, 2);
        for (int e = 0; e < 12; e++) {
            x.entry(2, 1, 1, 9, 0);
        }
        for (int round = 0; round < 11; round++) {
            x.attest(1, 0);
            x.sync(0);
        }
        x.fetch(0, 1);
        same("serial 127 is written", x.written(6), Forge.certificate(127, 0, 0, 9, ID));
        same("serial 128 is written", x.written(7), Forge.certificate(128, 0, 0, 9, ID));
    }

    private void keyNumbers() {
        s = book.sentence("Terms", NUMBER);
        Issuer x = Issuer.withIds(32, 2);
        x.entry(2, 1, 1, 1, 0);
        x.attest(1, 0);
        for (int k = 1; k < 128; k++) {
            x.tick(32);
            x.prepare();
            x.activate();
        }
        x.sync(0);
        x.fetch(0, 1);
        same("key 127 is written", x.written(0), Forge.certificate(1, 127, 4064, 4065, ID));
        Issuer y = Issuer.withIds(32, 2);
        y.entry(2, 1, 1, 1, 0);
        y.attest(1, 0);
        for (int k = 1; k < 129; k++) {
            y.tick(32);
            y.prepare();
            y.activate();
        }
        y.sync(0);
        y.fetch(0, 1);
        same("key 128 is written", y.written(0), Forge.certificate(1, 128, 4096, 4097, ID));
    }

    private void timeNumbers() {
        s = book.sentence("Terms", NUMBER);
        Issuer x = Issuer.withIds(256, 2);
        x.entry(2, 1, 1, 1, 0);
        x.attest(1, 0);
        x.pass(126);
        for (int clock = 126; clock < 130; clock++) {
            x.sync(0);
            x.fetch(0, 1);
            same("from " + clock, x.written(0), Forge.certificate(clock - 125, 0, clock, clock + 1, ID));
            x.tick(1);
        }
    }

    private void written() {
        s = book.sentence("Promise 15: written", "Byte p of the k-th certificate of the latest response, as it was issued; "
            + "MISSING when there is none.");
        s.is("before any response", new Issuer(64).written(0, 0), MISSING);
        Issuer x = Issuer.withIds(32, 2);
        x.entry(2, 1, 1, 9, 0);
        x.entry(1, 1, 1, 64, 0);
        x.attest(1, 0);
        x.sync(0);
        x.fetch(0, 1);
        int[] first = Forge.certificate(1, 0, 0, 9, ID);
        int[] second = Forge.certificate(2, 0, 0, 32, "spiffe://o/1");
        same("the first", x.written(0), first);
        same("the second", x.written(1), second);
        s.is("its last byte", x.written(0, first.length - 1), first[first.length - 1]);
        for (int p : new int[] {first.length, -1, 99, 100, Integer.MIN_VALUE, Integer.MAX_VALUE}) {
            s.is("byte " + p, x.written(0, p), MISSING);
        }
        for (int k : new int[] {2, -1, Integer.MIN_VALUE, Integer.MAX_VALUE}) {
            s.is("certificate " + k, x.written(k, 0), MISSING);
        }
        s.refused("a byte that is none", Situations::busy, y -> y.written(0, 99), MISSING);
        s.refused("a certificate that is none", Situations::busy, y -> y.written(2, 0), MISSING);
        x.remove(0);
        x.prepare();
        x.activate();
        x.tick(16);
        x.sync(0);
        same("the latest response stays", x.written(0), first);
        x.fetch(0, 1);
        same("renewed by key 1", x.written(0), Forge.certificate(3, 1, 16, 32, "spiffe://o/1"));
        s.is("no second", x.written(1, 0), MISSING);
        x.fetch(0, 2);
        s.is("denied", x.written(0, 0), MISSING);
    }
}
