/** The edges of the buffer and of IDs: terms, and promises 2 (put) and 3 (id). */
final class BufferAndIdEdges {
    private static final int MISSING = IdentityIssuer.MISSING;
    private static final int WRONG = IdentityIssuer.WRONG;
    private static final int FULL = IdentityIssuer.FULL;
    private static final String LONGEST = "spiffe://o/" + "x".repeat(29);

    private final Book book;
    private Sentence s;

    BufferAndIdEdges(Book book) {
        this.book = book;
    }

    void run() {
        bufferRoom();
        bufferBytes();
        put();
        idLength();
        idScheme();
        idDomain();
        idSegments();
        idPath();
        wrongCharacters();
        dotSegments();
        endings();
        leastPlace();
        twelveIds();
        ourDomain();
        idUsesTheBuffer();
        idAnswers();
    }

    private void error(String text, int place) {
        s.is("id of " + text, new Issuer(64).id(text), -1 - place);
    }

    private void good(String text) {
        s.is("id of " + text, new Issuer(64).id(text), 0);
    }

    /** A certificate's front whose ID fills the buffer from place 18 on, when there are as many bytes as given. */
    private static Issuer withBytes(int bytes, int idLength) {
        Issuer x = new Issuer(64);
        x.putAll(new int[] {48, 98, 48, 30, 2, 1, 1, 2, 1, 0, 2, 1, 0, 2, 1, 9, 134, idLength});
        x.putAll((LONGEST + "x".repeat(50)).substring(0, bytes - 18));
        return x;
    }

    private void bufferRoom() {
        s = book.sentence("Terms", "THE BUFFER holds at most 100 bytes,");
        s.is("all of 100 bytes are there: an ID of 82 behind 18", withBytes(100, 82).verify(), -1 - 58);
        s.is("an ID of 83", withBytes(100, 83).verify(), -1 - 17);
        s.is("99 bytes", withBytes(99, 82).verify(), -1 - 17);
        Issuer x = withBytes(99, 82);
        s.is("the 100th", x.put('x', 1), true);
        s.is("a 101st", x.put('x', 1), false);
        s.is("100 are there", x.verify(), -1 - 58);
        x = withBytes(96, 82);
        s.is("97th to 100th", x.put(0x78787878, 4), true);
        s.is("100 are there, too", x.verify(), -1 - 58);
        s.refused("a 101st byte", () -> fullBuffer(100), y -> y.put('x', 1), false);
        s.refused("98th to 101st", () -> fullBuffer(97), y -> y.put(0x78787878, 4), false);
    }

    private static Issuer fullBuffer(int bytes) {
        Issuer x = Situations.idle();
        x.putAll(LONGEST + "x".repeat(bytes - 40));
        return x;
    }

    private void bufferBytes() {
        s = book.sentence("Terms", "0 .. 255.");
        s.is("0 and 255 in a serial", new Issuer(64).verify(Forge.certificate(255, 0, 0, 9, "spiffe://o")), 255);
        Issuer x = new Issuer(64);
        x.putAll("spiffe://o");
        x.put(0, 1);
        s.is("0 is a byte", x.id(), -1 - 10);
        x.putAll("spiffe://o");
        x.put(255, 1);
        s.is("255 is a byte", x.id(), -1 - 10);
        x.put('s' | 256, 1);
        x.putAll("piffe://o");
        s.is("256 more is the same byte", x.id(), 0);
        x.put('s' - 256, 1);
        x.putAll("piffe://o");
        s.is("256 less, too", x.id(), 0);
    }

    private void put() {
        s = book.sentence("Promise 2: put", "Appends the n lowest bytes of word (n is 1 .. 4), the highest of them first, "
            + "to the buffer; false, changing nothing, when n is not as said or it would have more than 100.");
        Issuer x = new Issuer(64);
        s.is("n 1", x.put(0x7A7A7A00 | 's', 1), true);
        s.is("n 2", x.put(0x7A7A0000 | 'p' << 8 | 'i', 2), true);
        s.is("n 3", x.put(0x7A000000 | 'f' << 16 | 'f' << 8 | 'e', 3), true);
        s.is("n 4", x.put(':' << 24 | '/' << 16 | '/' << 8 | 'o', 4), true);
        s.is("they make", x.id(), 0);
        s.is("the same text", x.id("spiffe://o"), 0);
        s.is("the highest bit", x.put(0xF3000000, 4), true);
        s.is("is no s", x.id(), -1);
        for (int n : new int[] {0, 5, -1, Integer.MIN_VALUE, Integer.MAX_VALUE}) {
            s.refused("n " + n, Situations::busy, y -> y.put('x', n), false);
        }
        s.refused("n 5 with room for 4 bytes", () -> fullBuffer(96), y -> y.put('x', 5), false);
        for (int n = 1; n <= 4; n++) {
            int bytes = n;
            Issuer y = fullBuffer(100 - n);
            s.is("room for " + n, y.put(0x78787878, n), true);
            s.is("no room for 1", y.put(0x78787878, 1), false);
            s.refused("no room for " + n, () -> fullBuffer(101 - bytes), z -> z.put(0x78787878, bytes), false);
        }
    }

    private void idLength() {
        s = book.sentence("Terms", "An ID is a text of at most 40 characters:");
        good(LONGEST);
        error(LONGEST + "x", 40);
        good("spiffe://123456789012/" + "x".repeat(18));
        error("spiffe://123456789012/" + "x".repeat(19), 40);
        error(LONGEST + "x".repeat(60), 40);
        s.refused("41 characters", Situations::idle, x -> x.id(LONGEST + "x"), -1 - 40);
    }

    private void idScheme() {
        s = book.sentence("Terms", "spiffe:// ,");
        good("spiffe://o");
        String scheme = "spiffe://";
        for (int p = 0; p < scheme.length(); p++) {
            error(scheme.substring(0, p), p);
            error(scheme.substring(0, p) + "x" + scheme.substring(p + 1) + "o", p);
        }
        error("SPIFFE://o", 0);
        error(" spiffe://o", 0);
    }

    private void idDomain() {
        s = book.sentence("Terms", "a DOMAIN of 1 to 12 characters a .. z, 0 .. 9, . - _ ,");
        error("spiffe://", 9);
        error("spiffe:///x", 9);
        good("spiffe://o");
        good("spiffe://123456789012");
        good("spiffe://123456789012/x");
        error("spiffe://1234567890123", 21);
        error("spiffe://1234567890123/x", 21);
        for (char c : "az09.-_".toCharArray()) {
            good("spiffe://" + c);
            good("spiffe://o" + c + "o");
        }
        for (char c : "`{:,^@AZ[ %\u0000\u007f\u0080\u00ff".toCharArray()) {
            error("spiffe://" + c, 9);
            error("spiffe://o" + c + "o", 10);
        }
        good("spiffe://.");
        good("spiffe://..");
        s.refused("a domain of 13", Situations::idle, x -> x.id("spiffe://1234567890123"), -1 - 21);
    }

    private void idSegments() {
        s = book.sentence("Terms", "then any number of times / and a SEGMENT of one or more characters A .. Z, a .. z, "
            + "0 .. 9, . - _ that is not . or .. .");
        good("spiffe://o");
        good("spiffe://o/x");
        good("spiffe://o" + "/x".repeat(15));
        error("spiffe://o" + "/x".repeat(16), 40);
        error("spiffe://o/", 11);
        error("spiffe://o//x", 11);
        for (char c : "AZaz09-_".toCharArray()) {
            good("spiffe://o/" + c);
        }
        for (char c : "@[`{:,^ %\u0000\u007f\u0080\u00ff".toCharArray()) {
            error("spiffe://o/" + c, 11);
            error("spiffe://o/x" + c, 12);
        }
        error("spiffe://o/.", 11);
        error("spiffe://o/..", 11);
        good("spiffe://o/...");
        good("spiffe://o/.x");
        good("spiffe://o/x.");
        good("spiffe://o/..x");
        good("spiffe://o/x..");
        good("spiffe://o/.-");
        good("spiffe://o/.../..../x");
    }

    private void idPath() {
        s = book.sentence("Terms", "(The slashes and segments are its PATH.)");
        Issuer x = new Issuer(64);
        x.id("spiffe://o/s");
        x.id("spiffe://o");
        x.id("spiffe://o/x");
        s.is("no path", x.attest(1, 0), WRONG);
        s.is("the shortest path", x.attest(2, 0), 0);
    }

    private void wrongCharacters() {
        s = book.sentence("Terms", "The first error of a text that is no ID is at its first character that may not stand "
            + "there (also a 41st one),");
        error("x", 0);
        error("spiffe://o%", 10);
        error("spiffe://o/%", 11);
        error("spiffe://123456789012%", 21);
        String of39 = LONGEST.substring(0, 39);
        error(of39 + "%", 39);
        error(of39 + "x%", 40);
        error(of39 + "xx", 40);
        error(of39 + "x/", 40);
        error(of39 + "x/x", 40);
        good(of39 + "x");
        s.refused("a character that may not stand there", Situations::idle, x -> x.id("spiffe://o/x%"), -1 - 12);
    }

    private void dotSegments() {
        s = book.sentence("Terms", "at the first character of a segment that is . or .. (it ends before the first "
            + "character that is none of a segment's),");
        error("spiffe://o/.", 11);
        error("spiffe://o/./x", 11);
        error("spiffe://o/.%", 11);
        error("spiffe://o/..", 11);
        error("spiffe://o/../x", 11);
        error("spiffe://o/..%", 11);
        error("spiffe://o/..\u00ff", 11);
        error("spiffe://o/x/..", 13);
        error("spiffe://o/.x%", 13);
        error("spiffe://o/..x%", 14);
        error("spiffe://o/...%", 14);
        String of38 = LONGEST.substring(0, 38);
        good(of38 + "/x");
        error(of38 + "/.", 39);
        error(of38 + "/./", 39);
        error(of38 + "/.%", 39);
        error(of38 + "/..", 39);
        error(of38 + "/../", 39);
        error(of38 + "/.x", 40);
        error(of38 + "/...", 40);
        String of37 = LONGEST.substring(0, 37);
        error(of37 + "/..", 38);
        error(of37 + "/../", 38);
        error(of37 + "/..x", 40);
        good(of37 + "/.x");
        s.refused("a segment ..", Situations::idle, x -> x.id("spiffe://o/../a"), -1 - 11);
    }

    private void endings() {
        s = book.sentence("Terms", "or behind its last character when it ends where it may not end;");
        error("", 0);
        error("s", 1);
        error("spiffe:/", 8);
        error("spiffe://", 9);
        good("spiffe://o");
        error("spiffe://o/", 11);
        good("spiffe://o/x");
        error("spiffe://o/x/", 13);
        error("spiffe://123456789012/", 22);
        error(LONGEST.substring(0, 39) + "/", 40);
        s.refused("an empty text", Situations::idle, Issuer::id, -1);
        s.refused("a text that ends too early", Situations::idle, x -> x.id("spiffe://o/"), -1 - 11);
    }

    private void leastPlace() {
        s = book.sentence("Terms", "of several the one with the least place.");
        error("spiffe://o/%/..", 11);
        error("spiffe://o/../%", 11);
        error("spiffe://o//..", 11);
        error("spiffe://%//", 9);
        error("spiffe://o/../" + "x".repeat(40), 11);
        error("spiffe://o/x%" + "x".repeat(40), 12);
        error("spiffe://1234567890123/./", 21);
        error(LONGEST + "/..", 40);
        error(LONGEST + "%", 40);
    }

    private void twelveIds() {
        s = book.sentence("Terms", "IDS are numbered 0, 1, .. in the order in which they were read, at most 12; "
            + "one that is read again keeps its number.");
        Issuer x = new Issuer(64);
        for (int i = 0; i < 12; i++) {
            s.is("ID " + i, x.id("spiffe://o/" + (char) ('z' - i)), i);
            s.is("ID " + i + " again", x.id("spiffe://o/" + (char) ('z' - i)), i);
        }
        s.is("the first again", x.id("spiffe://o/z"), 0);
        s.is("a 13th", x.id("spiffe://o/a"), FULL);
        s.is("a 13th that is another's front", x.id("spiffe://o"), FULL);
        s.is("a 13th that goes on", x.id("spiffe://o/zz"), FULL);
        s.is("the last again", x.id("spiffe://o/o"), 11);
        s.is("ID 11 is there", x.attest(11, 0), 0);
        s.is("ID 12 is not", x.attest(12, 0), MISSING);
    }

    private void ourDomain() {
        s = book.sentence("Terms", "ID 0 is the SERVER's, its domain is OUR domain.");
        Issuer x = new Issuer(64);
        String[] names = {"spiffe://ab.de/s", "spiffe://ab.de/x", "spiffe://ab.d/x", "spiffe://ab.dee/x",
            "spiffe://ab.df/x", "spiffe://bb.de/x", "spiffe://ab.de/s/x"};
        int[] answers = {WRONG, 0, WRONG, WRONG, WRONG, WRONG, 1};
        for (String name : names) {
            x.id(name);
        }
        for (int id = 0; id < names.length; id++) {
            s.is(names[id], x.attest(id, 0), answers[id]);
        }
        Issuer y = new Issuer(64);
        s.is("before there is an ID 0", y.attest(0, 0), MISSING);
        y.id("spiffe://12345678901b/x");
        y.id("spiffe://12345678901a/x");
        y.id("spiffe://12345678901b/y");
        s.is("12 characters, the last one another", y.attest(1, 0), WRONG);
        s.is("12 characters", y.attest(2, 0), 0);
    }

    private void idUsesTheBuffer() {
        s = book.sentence("Promise 3: id", "Uses the buffer: its text must be an ID.");
        Issuer x = new Issuer(64);
        s.is("an ID", x.id("spiffe://o"), 0);
        s.is("used up", x.id(), -1);
        s.is("no ID", x.id("spiffe://O"), -1 - 9);
        s.is("used up, too", x.id("spiffe://o"), 0);
        s.is("used up by a 13th", afterThirteenth().id("spiffe://o"), 0);
    }

    private static Issuer afterThirteenth() {
        Issuer x = Issuer.withIds(64, 11);
        x.id("spiffe://o/12");
        return x;
    }

    private void idAnswers() {
        s = book.sentence("Promise 3: id", "Answers its number; -1 - the place of the first error; FULL when it would be a "
            + "13th one (one that was read before is told then, too; ID 0 may have a path).");
        Issuer x = new Issuer(64);
        s.is("ID 0 with a path", x.id("spiffe://o/s"), 0);
        for (int i = 1; i < 12; i++) {
            s.is("number " + i, x.id("spiffe://o/" + i), i);
        }
        s.is("a 13th", x.id("spiffe://o/12"), FULL);
        s.is("read before", x.id("spiffe://o/11"), 11);
        s.is("ID 0, read before", x.id("spiffe://o/s"), 0);
        s.is("the least place", x.id("x"), -1);
        s.is("the greatest place", x.id(LONGEST + "x"), -41);
        s.refused("a 13th ID", Situations::full, y -> y.id("spiffe://o/12"), FULL);
        s.refused("an error when IDs are full", Situations::full, y -> y.id("spiffe://o/12/"), -1 - 14);
        s.refused("an ID that was read before", Situations::full, y -> y.id("spiffe://o/11"), 11);
        s.refused("an error", Situations::idle, y -> y.id("spiffe://o/y/."), -1 - 13);
    }
}
