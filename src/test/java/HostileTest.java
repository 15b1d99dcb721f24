import java.util.Random;

/** No arguments and no state make a call throw or fail to end, not even behind the 512th call. */
public final class HostileTest {
    private static final int[] NUMBERS = {Integer.MIN_VALUE, -65536, -33, -32, -2, -1, 0, 1, 2, 3, 4, 5, 11, 12, 13, 15,
        16, 31, 32, 33, 59, 60, 61, 63, 64, 65, 99, 100, 101, 65535, 65536, Integer.MAX_VALUE};

    public static void main(String[] args) {
        Due due = new Due();
        for (int seed = 0; seed < 40; seed++) {
            due.is("run " + seed + " ends", run(new Random(seed)), true);
        }
        due.end();
    }

    private static int number(Random random) {
        int dice = random.nextInt(3);
        return dice == 0 ? random.nextInt() : dice == 1 ? random.nextInt(5) : NUMBERS[random.nextInt(NUMBERS.length)];
    }

    private static boolean run(Random random) {
        IdentityIssuer x = new IdentityIssuer(number(random));
        if (random.nextBoolean()) {
            readIds(x);
        }
        try {
            for (int i = 0; i < 20000; i++) {
                call(x, random, random.nextInt(18));
            }
            return true;
        } catch (RuntimeException thrown) {
            thrown.printStackTrace(System.out);
            return false;
        }
    }

    private static void readIds(IdentityIssuer x) {
        for (int i = 0; i < 12; i++) {
            for (char c : ("spiffe://o/" + i).toCharArray()) {
                x.put(c, 1);
            }
            x.id();
        }
    }

    private static void call(IdentityIssuer x, Random random, int which) {
        int n = number(random);
        int o = number(random);
        switch (which) {
            case 0 -> x.put(n, o);
            case 1 -> x.id();
            case 2 -> x.entry(n, o, number(random), number(random), number(random));
            case 3 -> x.remove(n);
            case 4 -> x.foreign(n, random.nextBoolean());
            case 5 -> x.attest(n, o);
            case 6 -> x.sync(n);
            case 7 -> x.fetch(n, o);
            case 8 -> x.watch(n, o);
            case 9 -> x.poll(n);
            case 10 -> x.svid(n, o);
            case 11 -> x.key(n);
            case 12 -> x.friends();
            case 13 -> x.written(n, o);
            case 14 -> x.verify();
            case 15 -> x.prepare();
            case 16 -> x.activate();
            default -> x.tick(n);
        }
    }
}
