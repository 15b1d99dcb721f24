import java.util.ArrayList;

/**
 * A server that issues identities, and the agents that hand them to workloads.
 * The numbered promises of the document say what each call answers.
 */
public final class IdentityIssuer {
    public static final int MISSING = -1001;
    public static final int WRONG = -1002;
    public static final int FULL = -1003;
    public static final int DENIED = -1004;
    public static final int EXPIRED = -1005;
    public static final int UNKNOWN = -1006;
    public static final int FORGED = -1007;

    private static final int NONE = -1;
    private static final int SERVER = 0;

    private static final int BUFFER_ROOM = 100;
    private static final int MAX_AGENTS = 3;
    private static final int MAX_WATCHERS = 4;
    private static final int FOREIGN_BUNDLES = 4;
    private static final int ALL_SELECTORS = 65535;
    private static final int ALL_FRIENDS = 15;
    private static final int MAX_TTL = 64;
    private static final int MAX_TICK = 64;
    private static final int MIN_LIFE = 32;
    private static final int MAX_LIFE = 256;

    private static final int SEQUENCE_TAG = 48;
    private static final int NUMBER_TAG = 2;
    private static final int ID_TAG = 134;
    private static final int MAX_NUMBER_SIZE = 4;
    private static final int LENGTH_PLACE = 1;
    private static final int BODY_PLACE = 2;
    private static final int BODY_LENGTH_PLACE = 3;
    private static final int[] BODY_TAIL = {3, 2, 7, 128};

    private final Bytes buffer = new Bytes();
    private final Ids ids = new Ids();
    private final Keys keys;
    private final Entries entries = new Entries();
    private final ArrayList<Agent> agents = new ArrayList<>();
    private final ArrayList<Watcher> watchers = new ArrayList<>();
    private final Response latest = new Response();
    private final Reader reader = new Reader();
    private final Writer writer = new Writer();
    private int foreignThere;
    private int clock;
    private int lastSerial;

    // Used again by each sync and poll, so that those calls make no lists of their own.
    private final ArrayList<Certificate> renewed = new ArrayList<>();
    private final Response current = new Response();

    public IdentityIssuer(int life) {
        keys = new Keys(Math.max(MIN_LIFE, Math.min(MAX_LIFE, life)));
    }

    public boolean put(int word, int n) {
        if (n < 1 || n > 4 || buffer.length() + n > BUFFER_ROOM) {
            return false;
        }
        for (int i = n - 1; i >= 0; i--) {
            buffer.append(word >>> (8 * i) & 255);
        }
        return true;
    }

    public int id() {
        int answer = numberOfText();
        buffer.clear();
        return answer;
    }

    public int entry(int id, int parent, int selectors, int ttl, int friends) {
        if (!ids.isThere(id) || !ids.isThere(parent)) {
            return MISSING;
        }
        if (!ids.mayBeHeld(id) || !ids.isOurs(parent) || selectors < 1 || selectors > ALL_SELECTORS
                || ttl < 1 || ttl > MAX_TTL || friends < 0 || friends > ALL_FRIENDS) {
            return WRONG;
        }
        if (entries.isFull()) {
            return FULL;
        }
        return entries.make(id, parent, selectors, ttl, friends);
    }

    public boolean remove(int e) {
        return entries.drop(e);
    }

    public boolean foreign(int k, boolean there) {
        if (k < 0 || k >= FOREIGN_BUNDLES || (foreignThere >> k & 1) == (there ? 1 : 0)) {
            return false;
        }
        foreignThere ^= 1 << k;
        return true;
    }

    public int attest(int id, int selectors) {
        if (!ids.isThere(id)) {
            return MISSING;
        }
        if (!ids.mayBeHeld(id) || selectors < 0 || selectors > ALL_SELECTORS) {
            return WRONG;
        }
        int a = agentWith(id);
        if (a == NONE) {
            return addAgent(id, selectors);
        }
        agents.get(a).attestAgain(selectors);
        return a;
    }

    public int sync(int a) {
        if (!isAgent(a)) {
            return MISSING;
        }
        Agent agent = agents.get(a);
        int reach = entries.reachOf(agent);
        int due = countDue(agent, reach);
        if (due > 0 && !keys.isGood(keys.active(), clock)) {
            return EXPIRED;
        }
        renew(agent, reach);
        agent.keepBundles(keys.firstGood(clock), keys.count(), foreignThere);
        return due;
    }

    public int fetch(int a, int selectors) {
        if (!isAgent(a)) {
            return MISSING;
        }
        latest.fill(agents.get(a), selectors, clock);
        return latest.answer();
    }

    public int watch(int a, int selectors) {
        if (!isAgent(a)) {
            return MISSING;
        }
        if (watchers.size() >= MAX_WATCHERS) {
            return FULL;
        }
        watchers.add(new Watcher(agents.get(a), selectors));
        return watchers.size() - 1;
    }

    public int poll(int w) {
        if (w < 0 || w >= watchers.size()) {
            return MISSING;
        }
        Watcher watcher = watchers.get(w);
        current.fill(watcher.agent, watcher.selectors, clock);
        if (watcher.hasGot(current)) {
            return 0;
        }
        watcher.take(current);
        latest.copy(current);
        return current.answer();
    }

    public int svid(int k, int what) {
        if (!latest.hasCertificate(k)) {
            return MISSING;
        }
        Certificate certificate = latest.certificate(k);
        switch (what) {
            case 0:
                return certificate.entry.number;
            case 1:
                return certificate.serial;
            case 2:
                return certificate.key;
            case 3:
                return certificate.start;
            case 4:
                return certificate.end;
            default:
                return MISSING;
        }
    }

    public int key(int k) {
        return k >= 0 && k < latest.keyCount() ? latest.firstKey + k : MISSING;
    }

    public int friends() {
        return latest.foreign;
    }

    public int written(int k, int p) {
        if (!latest.hasCertificate(k)) {
            return MISSING;
        }
        int found = writer.write(latest.certificate(k), ids).at(p);
        return found == NONE ? MISSING : found;
    }

    public int verify() {
        reader.read(buffer);
        int answer = judge();
        buffer.clear();
        return answer;
    }

    public int prepare() {
        return keys.mayMake(clock) ? keys.make(clock) : FULL;
    }

    public boolean activate() {
        return keys.useNext(clock);
    }

    public int tick(int n) {
        if (n < 1 || n > MAX_TICK) {
            return WRONG;
        }
        clock += n;
        return clock;
    }

    private int numberOfText() {
        int error = Ids.firstError(buffer, 0, buffer.length());
        if (error != NONE) {
            return -1 - error;
        }
        int known = ids.find(buffer);
        if (known != NONE) {
            return known;
        }
        return ids.isFull() ? FULL : ids.add(buffer);
    }

    private boolean isAgent(int a) {
        return a >= 0 && a < agents.size();
    }

    private int agentWith(int id) {
        for (int a = 0; a < agents.size(); a++) {
            if (agents.get(a).id == id) {
                return a;
            }
        }
        return NONE;
    }

    private int addAgent(int id, int selectors) {
        if (agents.size() >= MAX_AGENTS) {
            return FULL;
        }
        agents.add(new Agent(id, selectors));
        return agents.size() - 1;
    }

    private int countDue(Agent agent, int reach) {
        int due = 0;
        for (int i = 0; i < entries.size(); i++) {
            Entry entry = entries.at(i);
            if (entry.isEntitled(reach) && agent.fresh(entry, clock) == null) {
                due++;
            }
        }
        return due;
    }

    private void renew(Agent agent, int reach) {
        renewed.clear();
        for (int i = 0; i < entries.size(); i++) {
            Entry entry = entries.at(i);
            if (entry.isEntitled(reach)) {
                Certificate held = agent.fresh(entry, clock);
                renewed.add(held == null ? issue(entry) : held);
            }
        }
        agent.keepCertificates(renewed);
    }

    private Certificate issue(Entry entry) {
        lastSerial++;
        int active = keys.active();
        int end = Math.min(clock + entry.ttl, keys.endOf(active));
        return new Certificate(entry, lastSerial, active, clock, end);
    }

    private int judge() {
        if (reader.error != NONE) {
            return -1 - reader.error;
        }
        if (!keys.isGood(reader.key, clock)) {
            return UNKNOWN;
        }
        int sum = buffer.sum(BODY_PLACE, reader.bodyEnd);
        if (!Keys.isSignature(reader.signature, sum, reader.key)) {
            return FORGED;
        }
        if (clock < reader.start || clock >= reader.end) {
            return EXPIRED;
        }
        return reader.serial;
    }

    /** A row of bytes, 0 .. 255. */
    private static final class Bytes {
        private static final int SUM_MODULUS = 1000000007;

        private final int[] row = new int[BUFFER_ROOM];
        private int length;

        int length() {
            return length;
        }

        void clear() {
            length = 0;
        }

        /** NONE outside the row: a reader meets a missing byte as one that is not as said. */
        int at(int place) {
            return place >= 0 && place < length ? row[place] : NONE;
        }

        void append(int value) {
            if (length < row.length) {
                row[length] = value;
                length++;
            }
        }

        void replace(int place, int value) {
            if (place >= 0 && place < length) {
                row[place] = value;
            }
        }

        int sum(int from, int end) {
            long sum = 1;
            for (int place = from; place < end; place++) {
                sum = (sum * 257 + at(place) + 1) % SUM_MODULUS;
            }
            return (int) sum;
        }
    }

    /** The IDs that were read, and how an ID is read. */
    private static final class Ids {
        private static final String SCHEME = "spiffe://";
        private static final int MAX_DOMAIN = 12;
        private static final int MAX_LENGTH = 40;
        private static final int MAX_IDS = 12;

        private final int[][] texts = new int[MAX_IDS][MAX_LENGTH];
        private final int[] lengths = new int[MAX_IDS];
        private final int[] domainEnds = new int[MAX_IDS];
        private int count;

        /** The place in bytes of the first error of the text from .. end - 1, NONE when it is an ID. */
        static int firstError(Bytes bytes, int from, int end) {
            int error = schemeError(bytes, from, end);
            if (error == NONE) {
                int domain = from + SCHEME.length();
                int path = domainEnd(bytes, domain, end);
                error = path == domain ? domain : pathError(bytes, path, end);
            }
            int limit = from + MAX_LENGTH;
            boolean tooLong = end > limit && (error == NONE || error > limit);
            return tooLong ? limit : error;
        }

        private static int schemeError(Bytes bytes, int from, int end) {
            for (int i = 0; i < SCHEME.length(); i++) {
                if (from + i >= end || bytes.at(from + i) != SCHEME.charAt(i)) {
                    return from + i;
                }
            }
            return NONE;
        }

        /** A 13th character counts as behind the domain: no path can begin with it, which makes it the error. */
        private static int domainEnd(Bytes bytes, int domain, int end) {
            int last = Math.min(end, domain + MAX_DOMAIN);
            for (int place = domain; place < last; place++) {
                if (!isNameCharacter(bytes.at(place), false)) {
                    return place;
                }
            }
            return last;
        }

        private static int pathError(Bytes bytes, int path, int end) {
            for (int place = path; place < end; place++) {
                boolean inSegment = place > path && isNameCharacter(bytes.at(place), true);
                if (!inSegment && bytes.at(place) != '/') {
                    return place;
                }
                if (!inSegment && !isSegment(bytes, place + 1, end)) {
                    return place + 1;
                }
            }
            return NONE;
        }

        /** Whether the characters from here on, as far as they are a segment's, make one. */
        private static boolean isSegment(Bytes bytes, int segment, int end) {
            int behind = segment;
            boolean onlyDots = true;
            while (behind < end && isNameCharacter(bytes.at(behind), true)) {
                onlyDots = onlyDots && bytes.at(behind) == '.';
                behind++;
            }
            // One without any character is refused with those of one and two dots.
            return !onlyDots || behind - segment > 2;
        }

        private static boolean isNameCharacter(int c, boolean capitals) {
            return c >= 'a' && c <= 'z' || c >= '0' && c <= '9' || c == '.' || c == '-' || c == '_'
                    || capitals && c >= 'A' && c <= 'Z';
        }

        boolean isThere(int id) {
            return id >= 0 && id < count;
        }

        boolean isFull() {
            return count >= MAX_IDS;
        }

        int find(Bytes text) {
            for (int id = 0; id < count; id++) {
                if (isText(id, text)) {
                    return id;
                }
            }
            return NONE;
        }

        private boolean isText(int id, Bytes text) {
            if (lengths[id] != text.length()) {
                return false;
            }
            for (int i = 0; i < lengths[id]; i++) {
                if (texts[id][i] != text.at(i)) {
                    return false;
                }
            }
            return true;
        }

        /** The text is an ID, and there is room for it. */
        int add(Bytes text) {
            int length = Math.min(text.length(), MAX_LENGTH);
            for (int i = 0; i < length; i++) {
                texts[count][i] = text.at(i);
            }
            lengths[count] = length;
            domainEnds[count] = domainEnd(text, SCHEME.length(), length);
            count++;
            return count - 1;
        }

        void writeTo(Bytes bytes, int id) {
            bytes.append(lengths[id]);
            for (int i = 0; i < lengths[id]; i++) {
                bytes.append(texts[id][i]);
            }
        }

        /** Whether an entry or an agent may have this ID. */
        boolean mayBeHeld(int id) {
            return id != SERVER && lengths[id] > domainEnds[id] && isOurs(id);
        }

        boolean isOurs(int id) {
            if (domainEnds[id] != domainEnds[SERVER]) {
                return false;
            }
            for (int i = SCHEME.length(); i < domainEnds[id]; i++) {
                if (texts[id][i] != texts[SERVER][i]) {
                    return false;
                }
            }
            return true;
        }
    }

    /**
     * The server's keys. All live equally long, so the good ones are the youngest, and as no fifth
     * good one is ever made, the times of the last four are all that is needed.
     */
    private static final class Keys {
        private static final int MAX_GOOD = 4;
        private static final int KINDS = 4;
        private static final int PUBLIC_EXPONENT = 65537;
        private static final int EXPONENT_BITS = 31;
        private static final long[] MODULI = {1071514531L, 1070271221L, 1069289951L, 1067328611L};
        // The inverses of 65537 modulo (p - 1) * (q - 1), for the factors p and q of these moduli.
        private static final int[] SECRETS = {278664713, 526488929, 399288977, 940729625};

        private final int life;
        private final int[] madeAt = new int[MAX_GOOD];
        private int count = 1;
        private int active;
        private int prepared = NONE;

        Keys(int life) {
            this.life = life;
        }

        int active() {
            return active;
        }

        int count() {
            return count;
        }

        boolean isGood(int key, int clock) {
            return key >= 0 && key < count && key >= count - MAX_GOOD && clock < endOf(key);
        }

        int endOf(int key) {
            return madeAt[key & (MAX_GOOD - 1)] + life;
        }

        /** The bundle is all keys from this one on; count() when it is empty. */
        int firstGood(int clock) {
            for (int key = Math.max(0, count - MAX_GOOD); key < count; key++) {
                if (isGood(key, clock)) {
                    return key;
                }
            }
            return count;
        }

        boolean mayMake(int clock) {
            return !isGood(prepared, clock) && count - firstGood(clock) < MAX_GOOD;
        }

        int make(int clock) {
            prepared = count;
            madeAt[prepared & (MAX_GOOD - 1)] = clock;
            count++;
            return prepared;
        }

        boolean useNext(int clock) {
            if (!isGood(prepared, clock)) {
                return false;
            }
            active = prepared;
            prepared = NONE;
            return true;
        }

        static int signatureOf(int sum, int key) {
            return power(sum, SECRETS[key & (KINDS - 1)], key);
        }

        static boolean isSignature(int signature, int sum, int key) {
            return signature < MODULI[key & (KINDS - 1)] && power(signature, PUBLIC_EXPONENT, key) == sum;
        }

        private static int power(int base, int exponent, int key) {
            long modulus = MODULI[key & (KINDS - 1)];
            long square = base % modulus;
            long result = 1;
            for (int bit = 0; bit < EXPONENT_BITS; bit++) {
                if ((exponent >> bit & 1) == 1) {
                    result = result * square % modulus;
                }
                square = square * square % modulus;
            }
            return (int) result;
        }
    }

    /** Never changes, so that what agents keep of it stays as it was when they synced. */
    private static final class Entry {
        final int number;
        final int id;
        final int parent;
        final int selectors;
        final int ttl;
        final int friends;

        Entry(int number, int id, int parent, int selectors, int ttl, int friends) {
            this.number = number;
            this.id = id;
            this.parent = parent;
            this.selectors = selectors;
            this.ttl = ttl;
            this.friends = friends;
        }

        boolean isEntitled(int reach) {
            return (reach >> parent & 1) == 1;
        }

        boolean isSelectedBy(int others) {
            return (selectors & ~others) == 0;
        }
    }

    /** The entries that are there, by their numbers. */
    private static final class Entries {
        private static final int MAX_EVER = 60;
        private static final int MAX_THERE = 12;

        private final ArrayList<Entry> there = new ArrayList<>();
        private int made;

        int size() {
            return there.size();
        }

        Entry at(int i) {
            return there.get(i);
        }

        boolean isFull() {
            return made >= MAX_EVER || there.size() >= MAX_THERE;
        }

        int make(int id, int parent, int selectors, int ttl, int friends) {
            there.add(new Entry(made, id, parent, selectors, ttl, friends));
            made++;
            return made - 1;
        }

        boolean drop(int number) {
            for (int i = 0; i < there.size(); i++) {
                if (there.get(i).number == number) {
                    there.remove(i);
                    return true;
                }
            }
            return false;
        }

        /** The IDs of the agent's reach, as bits. */
        int reachOf(Agent agent) {
            int reach = 1 << agent.id;
            for (int i = 0; i < there.size(); i++) {
                Entry entry = there.get(i);
                if (entry.parent == SERVER && entry.isSelectedBy(agent.selectors)) {
                    reach |= 1 << entry.id;
                }
            }
            // No chain of parents has more links than there are entries, in whatever order they stand.
            for (int link = 0; link < there.size(); link++) {
                reach = withChildren(reach);
            }
            return reach;
        }

        private int withChildren(int reach) {
            int wider = reach;
            for (int i = 0; i < there.size(); i++) {
                Entry entry = there.get(i);
                if (entry.isEntitled(wider)) {
                    wider |= 1 << entry.id;
                }
            }
            return wider;
        }
    }

    /** Its bytes follow from these fields, so they are written only when they are asked for. */
    private static final class Certificate {
        final Entry entry;
        final int serial;
        final int key;
        final int start;
        final int end;

        Certificate(Entry entry, int serial, int key, int start, int end) {
            this.entry = entry;
            this.serial = serial;
            this.key = key;
            this.start = start;
            this.end = end;
        }
    }

    /** Writes certificates, one at a time, into a row that is used again. */
    private static final class Writer {
        private final Bytes bytes = new Bytes();
        private int writtenSerial;

        Bytes write(Certificate certificate, Ids ids) {
            // A certificate is mostly read byte after byte: it is signed once for all of them.
            if (certificate.serial != writtenSerial) {
                writtenSerial = certificate.serial;
                bytes.clear();
                bytes.append(SEQUENCE_TAG);
                bytes.append(0);
                writeBody(certificate, ids);
                int sum = bytes.sum(BODY_PLACE, bytes.length());
                writeNumber(Keys.signatureOf(sum, certificate.key));
                bytes.replace(LENGTH_PLACE, bytes.length() - LENGTH_PLACE - 1);
            }
            return bytes;
        }

        private void writeBody(Certificate certificate, Ids ids) {
            bytes.append(SEQUENCE_TAG);
            bytes.append(0);
            writeNumber(certificate.serial);
            writeNumber(certificate.key);
            writeNumber(certificate.start);
            writeNumber(certificate.end);
            bytes.append(ID_TAG);
            ids.writeTo(bytes, certificate.entry.id);
            for (int i = 0; i < BODY_TAIL.length; i++) {
                bytes.append(BODY_TAIL[i]);
            }
            bytes.replace(BODY_LENGTH_PLACE, bytes.length() - BODY_LENGTH_PLACE - 1);
        }

        private void writeNumber(int number) {
            int size = 1;
            while (size < MAX_NUMBER_SIZE && number >>> (8 * size - 1) != 0) {
                size++;
            }
            bytes.append(NUMBER_TAG);
            bytes.append(size);
            for (int i = size - 1; i >= 0; i--) {
                bytes.append(number >>> (8 * i) & 255);
            }
        }
    }

    /**
     * Reads a certificate from the front. Only the first error counts, so reading goes on behind it
     * without harm: a place outside the bytes reads as NONE.
     */
    private static final class Reader {
        // A row of its own till it reads: a constructor hands no part of its object to another.
        private Bytes bytes = new Bytes();
        private int place;
        private int error;
        private int serial;
        private int key;
        private int start;
        private int end;
        private int bodyEnd;
        private int signature;

        void read(Bytes certificate) {
            bytes = certificate;
            place = 0;
            error = NONE;
            expect(SEQUENCE_TAG);
            skipLength();
            expect(SEQUENCE_TAG);
            skipLength();
            serial = readNumber();
            key = readNumber();
            start = readNumber();
            end = readNumber();
            readId();
            for (int i = 0; i < BODY_TAIL.length; i++) {
                expect(BODY_TAIL[i]);
            }
            bodyEnd = place;
            signature = readNumber();
            checkLengths();
        }

        private void fail(int at) {
            if (error == NONE) {
                error = at;
            }
        }

        private void expect(int value) {
            if (bytes.at(place) != value) {
                fail(place);
            }
            place++;
        }

        /** What a length must be is known only when all was read. */
        private void skipLength() {
            if (bytes.at(place) == NONE) {
                fail(place);
            }
            place++;
        }

        private int readNumber() {
            expect(NUMBER_TAG);
            int size = bytes.at(place);
            if (size < 1 || size > MAX_NUMBER_SIZE) {
                fail(place);
                return 0;
            }
            int first = place + 1;
            if (bytes.at(first) > 127) {
                fail(first);
            }
            place = first + size;
            int number = 0;
            for (int i = first; i < place; i++) {
                if (bytes.at(i) == NONE) {
                    fail(i);
                }
                number = number << 8 | bytes.at(i);
            }
            if (size > 1 && bytes.at(first) == 0 && bytes.at(first + 1) < 128) {
                fail(first);
            }
            return number;
        }

        private void readId() {
            expect(ID_TAG);
            int size = bytes.at(place);
            int first = place + 1;
            if (size == NONE || size > bytes.length() - first) {
                fail(place);
                return;
            }
            place = first + size;
            int wrong = Ids.firstError(bytes, first, place);
            if (wrong != NONE) {
                fail(wrong);
            }
        }

        private void checkLengths() {
            if (bytes.at(BODY_LENGTH_PLACE) != bodyEnd - BODY_LENGTH_PLACE - 1) {
                fail(BODY_LENGTH_PLACE);
            }
            if (place < bytes.length()) {
                fail(place);
            }
            if (bytes.at(LENGTH_PLACE) != place - LENGTH_PLACE - 1) {
                fail(LENGTH_PLACE);
            }
        }
    }

    /** An agent and what it keeps; its keys are those from firstKey to before keyEnd. */
    private static final class Agent {
        final int id;
        private final ArrayList<Certificate> kept = new ArrayList<>();
        private int selectors;
        private int firstKey;
        private int keyEnd;
        private int foreign;

        Agent(int id, int selectors) {
            this.id = id;
            this.selectors = selectors;
        }

        void attestAgain(int newSelectors) {
            selectors = newSelectors;
            kept.clear();
            keepBundles(0, 0, 0);
        }

        void keepCertificates(ArrayList<Certificate> certificates) {
            kept.clear();
            for (int i = 0; i < certificates.size(); i++) {
                kept.add(certificates.get(i));
            }
        }

        void keepBundles(int first, int end, int foreignBundles) {
            firstKey = first;
            keyEnd = end;
            foreign = foreignBundles;
        }

        /** The kept certificate of this entry before half of its time is over, or null. */
        Certificate fresh(Entry entry, int clock) {
            for (int i = 0; i < kept.size(); i++) {
                Certificate certificate = kept.get(i);
                if (certificate.entry.number == entry.number
                        && 2 * clock < certificate.start + certificate.end) {
                    return certificate;
                }
            }
            return null;
        }
    }

    /** A response; one that is denied is empty, and so is the latest before there was any. */
    private static final class Response {
        private final ArrayList<Certificate> certificates = new ArrayList<>();
        private int firstKey;
        private int keyEnd;
        private int foreign;

        void fill(Agent agent, int selectors, int clock) {
            certificates.clear();
            int befriended = 0;
            for (int i = 0; i < agent.kept.size(); i++) {
                Certificate certificate = agent.kept.get(i);
                if (certificate.entry.isSelectedBy(selectors) && certificate.end > clock) {
                    certificates.add(certificate);
                    befriended |= certificate.entry.friends;
                }
            }
            boolean denied = certificates.isEmpty();
            firstKey = denied ? 0 : agent.firstKey;
            keyEnd = denied ? 0 : agent.keyEnd;
            foreign = befriended & agent.foreign;
        }

        void copy(Response other) {
            certificates.clear();
            for (int i = 0; i < other.certificates.size(); i++) {
                certificates.add(other.certificates.get(i));
            }
            firstKey = other.firstKey;
            keyEnd = other.keyEnd;
            foreign = other.foreign;
        }

        boolean isLike(Response other) {
            if (certificates.size() != other.certificates.size() || firstKey != other.firstKey
                    || keyEnd != other.keyEnd || foreign != other.foreign) {
                return false;
            }
            for (int i = 0; i < certificates.size(); i++) {
                if (certificates.get(i).serial != other.certificates.get(i).serial) {
                    return false;
                }
            }
            return true;
        }

        int answer() {
            return certificates.isEmpty() ? DENIED : certificates.size();
        }

        boolean hasCertificate(int k) {
            return k >= 0 && k < certificates.size();
        }

        Certificate certificate(int k) {
            return certificates.get(k);
        }

        int keyCount() {
            return keyEnd - firstKey;
        }
    }

    /** Watches an agent for one workload, and remembers what it told that workload last. */
    private static final class Watcher {
        final Agent agent;
        final int selectors;
        private final Response last = new Response();
        private boolean told;

        Watcher(Agent agent, int selectors) {
            this.agent = agent;
            this.selectors = selectors;
        }

        boolean hasGot(Response response) {
            return told && last.isLike(response);
        }

        void take(Response response) {
            told = true;
            last.copy(response);
        }
    }
}
