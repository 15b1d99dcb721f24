/** Promises 2 (put) and 3 (id). */
public final class BufferAndIdTest {
    private static final Due due = new Due();

    public static void main(String[] args) {
        putTakesTheLowestBytes();
        putKnowsItsRoom();
        schemeErrors();
        domainErrors();
        pathErrors();
        lengthErrors();
        numbers();
        twelveIds();
        everyByteInEveryPart();
        due.end();
    }

    private static void error(String text, int place) {
        due.is("id of " + text, new Issuer(64).id(text), -1 - place);
    }

    private static void good(String text) {
        due.is("id of " + text, new Issuer(64).id(text), 0);
    }

    private static void putTakesTheLowestBytes() {
        Issuer x = new Issuer(64);
        x.put('s' << 8 | 'p' | 0x7F990000, 2);
        x.put('i' | 0x80ABCD00, 1);
        x.put('f' << 16 | 'f' << 8 | 'e' | 0xFF000000, 3);
        x.put(':' << 24 | '/' << 16 | '/' << 8 | 'a', 4);
        due.is("id of bytes in groups", x.id(), 0);
        due.is("the same again", x.id("spiffe://a"), 0);
        x.put(255 << 8 | 's', 2);
        due.is("the highest byte first", x.id(), -1);
        x.put('s' << 8 | 255, 2);
        due.is("bytes above 127 are no characters of an ID", x.id(), -2);
    }

    private static void putKnowsItsRoom() {
        Issuer x = new Issuer(64);
        for (int n : new int[] {0, -1, 5, Integer.MIN_VALUE, Integer.MAX_VALUE}) {
            due.is("put(0, " + n + ")", x.put(0, n), false);
        }
        due.is("nothing was put", x.id("spiffe://a"), 0);
        for (int i = 0; i < 24; i++) {
            due.is("put 4 bytes", x.put(0x30303030, 4), true);
        }
        due.is("97 .. 99", x.put(0x303030, 3), true);
        due.is("two more than 99", x.put(0x3030, 2), false);
        due.is("the 100th", x.put(0x30, 1), true);
        due.is("a 101st", x.put(0x30, 1), false);
        due.is("id", x.id(), -1);
        due.is("empty again", x.put(0x30303030, 4), true);
        x.verify();
        due.is("verify empties it, too", x.id("spiffe://a"), 0);
    }

    private static void schemeErrors() {
        error("", 0);
        error("s", 1);
        error("spiffe:/", 8);
        error("spiffe://", 9);
        error("Spiffe://a", 0);
        error("spiffe:/a/", 8);
        error("spiffe;//a", 6);
        error("spifFe://a", 4);
    }

    private static void domainErrors() {
        good("spiffe://a");
        good("spiffe://.");
        good("spiffe://..");
        good("spiffe://az09.-_");
        good("spiffe://123456789012");
        good("spiffe://123456789012/x");
        error("spiffe:///a", 9);
        error("spiffe://A", 9);
        error("spiffe://aB", 10);
        error("spiffe://a:80", 10);
        error("spiffe://a@b/c", 10);
        error("spiffe://1234567890123", 21);
        error("spiffe://1234567890123/.", 21);
        error("spiffe://123456789012A", 21);
        error("spiffe://12345678901A2", 20);
    }

    private static void pathErrors() {
        good("spiffe://a/B-z_0.9");
        good("spiffe://a/...");
        good("spiffe://a/.b");
        good("spiffe://a/..b");
        good("spiffe://a/b.");
        good("spiffe://a/b/c/d/e");
        error("spiffe://a/", 11);
        error("spiffe://a//b", 11);
        error("spiffe://a/b/", 13);
        error("spiffe://a/b//c", 13);
        error("spiffe://a/.", 11);
        error("spiffe://a/..", 11);
        error("spiffe://a/./b", 11);
        error("spiffe://a/../b", 11);
        error("spiffe://a/b/..", 13);
        error("spiffe://a/b/.", 13);
        error("spiffe://a/.%", 11);
        error("spiffe://a/..%", 11);
        error("spiffe://a/...%", 14);
        error("spiffe://a/.b%", 13);
        error("spiffe://a/%", 11);
        error("spiffe://a/b c", 12);
        error("spiffe://a/b%/..", 12);
        error("spiffe://a/\u00e9", 11);
    }

    private static void lengthErrors() {
        String p38 = "spiffe://a/" + "b".repeat(27);
        good(p38 + "cc");
        good(p38 + "/c");
        error(p38 + "ccc", 40);
        error(p38 + "cc%", 40);
        error(p38 + "cc/", 40);
        error(p38 + "c%c", 39);
        error(p38 + "c/", 40);
        error(p38 + "/c/..", 40);
        error(p38 + "/.", 39);
        error(p38 + "/..", 39);
        error(p38 + "/./", 39);
        error(p38 + "/../c", 39);
        error(p38 + "/..%", 39);
        error(p38 + "/.c", 40);
        error(p38 + "/...", 40);
        error(p38 + "/..c", 40);
        error("spiffe://a/" + "b".repeat(89), 40);
        error("spiffe://a/.", 11);
        error("spiffe://a/./" + "b".repeat(60), 11);
    }

    private static void numbers() {
        Issuer x = new Issuer(64);
        due.is("ID 0 may have a path", x.id("spiffe://a/srv"), 0);
        due.is("the next", x.id("spiffe://a"), 1);
        due.is("another domain", x.id("spiffe://b/srv"), 2);
        due.is("an error takes no number", x.id("spiffe://a/"), -12);
        due.is("a letter of another case", x.id("spiffe://a/Srv"), 3);
        due.is("read again", x.id("spiffe://a/srv"), 0);
        due.is("read again", x.id("spiffe://b/srv"), 2);
        due.is("a longer one", x.id("spiffe://a/srv1"), 4);
        due.is("a shorter one", x.id("spiffe://a/sr"), 5);
    }

    private static void twelveIds() {
        Issuer x = Issuer.withIds(64, 10);
        due.is("the 12th", x.id("spiffe://o/11"), 11);
        due.is("a 13th", x.id("spiffe://o/12"), IdentityIssuer.FULL);
        due.is("the buffer is empty then", x.id(), -1);
        due.is("an error is told all the same", x.id("spiffe://o/12/"), -15);
        due.is("one that was read before", x.id("spiffe://o/7"), 7);
        due.is("the last of them", x.id("spiffe://o/11"), 11);
        due.is("ID 12 is not there", x.attest(12, 0), IdentityIssuer.MISSING);
    }

    private static void everyByteInEveryPart() {
        String domain = "abcdefghijklmnopqrstuvwxyz0123456789.-_";
        String segment = domain + "ABCDEFGHIJKLMNOPQRSTUVWXYZ";
        for (char c = 0; c < 256; c++) {
            String inDomain = "spiffe://a" + c + "a";
            String inPath = "spiffe://a/b" + c + "c";
            if (domain.indexOf(c) >= 0 || c == '/') {
                good(inDomain);
            } else {
                error(inDomain, 10);
            }
            if (segment.indexOf(c) >= 0 || c == '/') {
                good(inPath);
            } else {
                error(inPath, 12);
            }
        }
    }
}
