/** Objects with something of everything in them, made by the same calls each time. */
final class Situations {
    private Situations() {
    }

    /** Nothing is full; the buffer is empty. Key 1 is active, key 2 prepared, the clock is 5. */
    static Issuer idle() {
        Issuer x = new Issuer(64);
        String[] names = {"spiffe://o/s", "spiffe://o", "spiffe://o/a", "spiffe://o/b", "spiffe://o/c", "spiffe://p/a",
            "spiffe://o/d", "spiffe://p"};
        for (String name : names) {
            x.id(name);
        }
        x.entry(3, 2, 1, 10, 1);
        x.entry(4, 3, 2, 20, 2);
        x.entry(6, 0, 4, 30, 4);
        x.entry(2, 6, 1, 40, 15);
        x.entry(3, 3, 1, 8, 0);
        x.remove(4);
        x.foreign(0, true);
        x.foreign(2, true);
        x.attest(2, 4);
        x.attest(3, 0);
        x.tick(3);
        x.prepare();
        x.activate();
        x.tick(2);
        x.prepare();
        x.sync(0);
        x.sync(1);
        x.watch(0, 3);
        x.watch(1, 7);
        x.poll(0);
        x.fetch(0, 1);
        x.foreign(1, true);
        return x;
    }

    /** As idle, with the front of an ID in the buffer that a probe goes on with. */
    static Issuer busy() {
        Issuer x = idle();
        x.putAll("spiffe://o/n");
        return x;
    }

    /** 12 IDs, 12 entries, 3 agents, 4 watchers and 4 good keys; the buffer is empty, the clock is 3. */
    static Issuer full() {
        Issuer x = Issuer.withIds(64, 11);
        for (int i = 0; i < 12; i++) {
            x.entry(1 + i % 11, 1 + i * 5 % 11, 1 << i % 4, 5 * (i + 1), i);
        }
        for (int a = 0; a < 3; a++) {
            x.attest(a + 1, a);
            x.tick(1);
            x.prepare();
            x.activate();
            x.foreign(a, true);
            x.sync(a);
        }
        for (int w = 0; w < 4; w++) {
            x.watch(w % 3, 1 << w);
        }
        x.poll(0);
        x.fetch(1, 7);
        return x;
    }

    /** As full, with the front of an ID in the buffer. */
    static Issuer fullAndBusy() {
        Issuer x = full();
        x.putAll("spiffe://o/n");
        return x;
    }

    /** 60 entries were made, the last two are there. */
    static Issuer sixtyEntries() {
        Issuer x = Issuer.withIds(64, 4);
        for (int e = 0; e < 60; e++) {
            x.entry(2 + e % 3, 1, 1, 10, 1);
            if (e < 58) {
                x.remove(e);
            }
        }
        x.attest(1, 0);
        x.sync(0);
        x.fetch(0, 1);
        return x;
    }

    /** The active key 1 and the certificates are over, key 2 is prepared and good, and entry 1 is new. */
    static Issuer expired() {
        Issuer x = Issuer.withIds(32, 4);
        x.entry(2, 1, 1, 64, 15);
        x.foreign(1, true);
        x.attest(1, 0);
        x.prepare();
        x.activate();
        x.sync(0);
        x.watch(0, 1);
        x.fetch(0, 1);
        x.tick(20);
        x.prepare();
        x.entry(3, 2, 1, 64, 15);
        x.foreign(2, true);
        x.tick(12);
        return x;
    }
}
