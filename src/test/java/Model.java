import java.util.ArrayList;
import java.util.HashMap;
import java.util.HashSet;
import java.util.LinkedHashMap;
import java.util.List;
import java.util.Map;
import java.util.Set;
import java.util.TreeMap;
import java.util.TreeSet;

/**
 * The document once more, with the whole Java library and without a thought for speed or room:
 * all keys and all bytes are kept, and texts, sets and maps stand for what the program packs into numbers.
 */
final class Model {
    record Entry(int number, int id, int parent, int selectors, int ttl, int friends) {
    }

    record Svid(Entry entry, int serial, int key, int start, int end, List<Integer> bytes) {
    }

    record Response(List<Svid> svids, List<Integer> keys, Set<Integer> foreign) {
        int answer() {
            return svids.isEmpty() ? -1004 : svids.size();
        }
    }

    static final class Agent {
        int selectors;
        Map<Integer, Svid> kept = new TreeMap<>();
        List<Integer> keys = new ArrayList<>();
        Set<Integer> foreign = new TreeSet<>();
    }

    static final class Watcher {
        Agent agent;
        int selectors;
        Response last;
    }

    private static final Response EMPTY = new Response(List.of(), List.of(), Set.of());

    private final int life;
    private StringBuilder buffer = new StringBuilder();
    private final List<String> ids = new ArrayList<>();
    private final List<Integer> keyTimes = new ArrayList<>(List.of(0));
    private int active = 0;
    private Integer prepared = null;
    private final Map<Integer, Entry> entries = new TreeMap<>();
    private int made = 0;
    private final Set<Integer> foreign = new TreeSet<>();
    private final Map<Integer, Agent> agents = new LinkedHashMap<>();
    private final List<Watcher> watchers = new ArrayList<>();
    private Response latest = EMPTY;
    private int clock = 0;
    private int serials = 0;

    Model(int life) {
        this.life = life < 32 ? 32 : life > 256 ? 256 : life;
    }

    int bytesInBuffer() {
        return buffer.length();
    }

    boolean put(int word, int n) {
        if (n < 1 || n > 4 || buffer.length() + n > 100) {
            return false;
        }
        String hex = String.format("%08x", word);
        for (int i = 4 - n; i < 4; i++) {
            buffer.append((char) Integer.parseInt(hex.substring(2 * i, 2 * i + 2), 16));
        }
        return true;
    }

    /** The least place among all kinds of error, or -1. */
    static int firstError(String text) {
        int least = Integer.MAX_VALUE;
        if (text.length() > 40) {
            least = 40;
        }
        String scheme = "spiffe://";
        for (int p = 0; p < text.length(); p++) {
            String front = text.substring(0, p + 1);
            boolean may = scheme.startsWith(front)
                || front.matches("(?s)spiffe://[a-z0-9._-]{1,12}(/[A-Za-z0-9._-]+)*/?");
            if (!may) {
                least = Math.min(least, p);
                break;
            }
        }
        if (text.isEmpty() || scheme.startsWith(text) || text.endsWith("/")) {
            least = Math.min(least, text.length());
        }
        for (int p = 10; p < text.length(); p++) {
            if (text.charAt(p - 1) == '/' && text.substring(p).matches("(?s)\\.\\.?([^A-Za-z0-9._-].*)?")) {
                least = Math.min(least, p);
            }
        }
        return least == Integer.MAX_VALUE ? -1 : least;
    }

    int id() {
        String text = buffer.toString();
        buffer = new StringBuilder();
        int error = firstError(text);
        if (error >= 0) {
            return -1 - error;
        }
        if (!ids.contains(text)) {
            if (ids.size() == 12) {
                return -1003;
            }
            ids.add(text);
        }
        return ids.indexOf(text);
    }

    private boolean thereId(int id) {
        return id >= 0 && id < ids.size();
    }

    private boolean ours(int id) {
        return ids.get(id).split("/")[2].equals(ids.get(0).split("/")[2]);
    }

    private boolean named(int id) {
        return id != 0 && ids.get(id).split("/").length > 3 && ours(id);
    }

    int entry(int id, int parent, int selectors, int ttl, int friends) {
        if (!thereId(id) || !thereId(parent)) {
            return -1001;
        }
        if (!named(id) || !ours(parent) || selectors <= 0 || selectors >= 1 << 16 || ttl <= 0 || ttl > 64
            || friends < 0 || friends > 15) {
            return -1002;
        }
        if (made == 60 || entries.size() == 12) {
            return -1003;
        }
        entries.put(made, new Entry(made, id, parent, selectors, ttl, friends));
        return made++;
    }

    boolean remove(int e) {
        return entries.remove(e) != null;
    }

    boolean foreign(int k, boolean there) {
        return k >= 0 && k <= 3 && (there ? foreign.add(k) : foreign.remove(k));
    }

    int attest(int id, int selectors) {
        if (!thereId(id)) {
            return -1001;
        }
        if (!named(id) || selectors < 0 || selectors >= 1 << 16) {
            return -1002;
        }
        if (!agents.containsKey(id)) {
            if (agents.size() == 3) {
                return -1003;
            }
            agents.put(id, new Agent());
        }
        Agent agent = agents.get(id);
        agent.selectors = selectors;
        agent.kept = new TreeMap<>();
        agent.keys = new ArrayList<>();
        agent.foreign = new TreeSet<>();
        return new ArrayList<>(agents.keySet()).indexOf(id);
    }

    private Agent agent(int a) {
        return a < 0 || a >= agents.size() ? null : new ArrayList<>(agents.values()).get(a);
    }

    private static boolean within(int some, int all) {
        return (some & all) == some;
    }

    private Set<Integer> reach(int a) {
        Set<Integer> reach = new HashSet<>();
        reach.add(new ArrayList<>(agents.keySet()).get(a));
        for (Entry e : entries.values()) {
            if (e.parent() == 0 && within(e.selectors(), agent(a).selectors)) {
                reach.add(e.id());
            }
        }
        int before;
        do {
            before = reach.size();
            for (Entry e : entries.values()) {
                if (reach.contains(e.parent())) {
                    reach.add(e.id());
                }
            }
        } while (reach.size() > before);
        return reach;
    }

    private boolean good(int key) {
        return key >= 0 && key < keyTimes.size() && clock < keyTimes.get(key) + life;
    }

    private List<Integer> bundle() {
        List<Integer> bundle = new ArrayList<>();
        for (int k = 0; k < keyTimes.size(); k++) {
            if (good(k)) {
                bundle.add(k);
            }
        }
        return bundle;
    }

    int sync(int a) {
        Agent agent = agent(a);
        if (agent == null) {
            return -1001;
        }
        Set<Integer> reach = reach(a);
        Map<Integer, Svid> next = new TreeMap<>();
        int serial = serials;
        for (Entry e : entries.values()) {
            if (!reach.contains(e.parent())) {
                continue;
            }
            Svid held = agent.kept.get(e.number());
            if (held == null || 2 * clock >= held.start() + held.end()) {
                if (!good(active)) {
                    return -1005;
                }
                serial++;
                int end = Math.min(clock + e.ttl(), keyTimes.get(active) + life);
                List<Integer> bytes = new ArrayList<>();
                for (int b : Forge.certificate(serial, active, clock, end, ids.get(e.id()))) {
                    bytes.add(b);
                }
                held = new Svid(e, serial, active, clock, end, bytes);
            }
            next.put(e.number(), held);
        }
        int issued = serial - serials;
        serials = serial;
        agent.kept = next;
        agent.keys = bundle();
        agent.foreign = new TreeSet<>(foreign);
        return issued;
    }

    private Response response(Agent agent, int selectors) {
        List<Svid> svids = new ArrayList<>();
        Set<Integer> friends = new TreeSet<>();
        for (Svid s : agent.kept.values()) {
            if (within(s.entry().selectors(), selectors) && s.end() > clock) {
                svids.add(s);
                for (int k : agent.foreign) {
                    if ((s.entry().friends() & 1 << k) != 0) {
                        friends.add(k);
                    }
                }
            }
        }
        return svids.isEmpty() ? EMPTY : new Response(svids, List.copyOf(agent.keys), friends);
    }

    int fetch(int a, int selectors) {
        if (agent(a) == null) {
            return -1001;
        }
        latest = response(agent(a), selectors);
        return latest.answer();
    }

    int watch(int a, int selectors) {
        if (agent(a) == null) {
            return -1001;
        }
        if (watchers.size() == 4) {
            return -1003;
        }
        Watcher w = new Watcher();
        w.agent = agent(a);
        w.selectors = selectors;
        watchers.add(w);
        return watchers.size() - 1;
    }

    int poll(int w) {
        if (w < 0 || w >= watchers.size()) {
            return -1001;
        }
        Watcher watcher = watchers.get(w);
        Response now = response(watcher.agent, watcher.selectors);
        if (now.equals(watcher.last)) {
            return 0;
        }
        watcher.last = now;
        latest = now;
        return now.answer();
    }

    int svid(int k, int what) {
        if (k < 0 || k >= latest.svids().size() || what < 0 || what > 4) {
            return -1001;
        }
        Svid s = latest.svids().get(k);
        return List.of(s.entry().number(), s.serial(), s.key(), s.start(), s.end()).get(what);
    }

    int key(int k) {
        return k < 0 || k >= latest.keys().size() ? -1001 : latest.keys().get(k);
    }

    int friends() {
        int bits = 0;
        for (int k : latest.foreign()) {
            bits += 1 << k;
        }
        return bits;
    }

    int written(int k, int p) {
        if (k < 0 || k >= latest.svids().size()) {
            return -1001;
        }
        List<Integer> bytes = latest.svids().get(k).bytes();
        return p < 0 || p >= bytes.size() ? -1001 : bytes.get(p);
    }

    /** Ends the reading of a certificate at its first error. */
    private static final class Stop extends Exception {
        private static final long serialVersionUID = 1;
        final int place;

        Stop(int place) {
            this.place = place;
        }
    }

    private static final class Scan {
        final String text;
        int at = 0;

        Scan(String text) {
            this.text = text;
        }

        int any() throws Stop {
            if (at == text.length()) {
                throw new Stop(at);
            }
            return text.charAt(at++);
        }

        void one(int want) throws Stop {
            if (any() != want) {
                throw new Stop(at - 1);
            }
        }

        int number() throws Stop {
            one(2);
            int size = any();
            if (size == 0 || size > 4) {
                throw new Stop(at - 1);
            }
            int first = at;
            int value = any();
            if (value >= 128) {
                throw new Stop(first);
            }
            for (int i = 1; i < size; i++) {
                value = value * 256 + any();
            }
            if (Forge.number(value).length != size + 2) {
                throw new Stop(first);
            }
            return value;
        }

        void id() throws Stop {
            one(134);
            int size = any();
            if (text.length() - at < size) {
                throw new Stop(at - 1);
            }
            int error = firstError(text.substring(at, at + size));
            if (error >= 0) {
                throw new Stop(at + error);
            }
            at += size;
        }
    }

    int verify() {
        Scan scan = new Scan(buffer.toString());
        buffer = new StringBuilder();
        try {
            return verify(scan);
        } catch (Stop stop) {
            return -1 - stop.place;
        }
    }

    private int verify(Scan scan) throws Stop {
        scan.one(48);
        int length = scan.any();
        scan.one(48);
        int bodyLength = scan.any();
        Map<String, Integer> read = new HashMap<>();
        for (String name : List.of("serial", "key", "start", "end")) {
            read.put(name, scan.number());
        }
        scan.id();
        for (int b : new int[] {3, 2, 7, 128}) {
            scan.one(b);
        }
        int bodyEnd = scan.at;
        int signature = scan.number();
        if (bodyLength != bodyEnd - 4) {
            throw new Stop(3);
        }
        if (scan.at < scan.text.length()) {
            throw new Stop(scan.at);
        }
        if (length != scan.text.length() - 2) {
            throw new Stop(1);
        }
        if (!bundle().contains(read.get("key"))) {
            return -1006;
        }
        int[] body = scan.text.substring(2, bodyEnd).chars().toArray();
        if (!Forge.isRight(signature, body, read.get("key"))) {
            return -1007;
        }
        return clock < read.get("start") || clock >= read.get("end") ? -1005 : read.get("serial");
    }

    int prepare() {
        if (prepared != null && good(prepared) || bundle().size() == 4) {
            return -1003;
        }
        prepared = keyTimes.size();
        keyTimes.add(clock);
        return prepared;
    }

    boolean activate() {
        if (prepared == null || !good(prepared)) {
            return false;
        }
        active = prepared;
        prepared = null;
        return true;
    }

    int tick(int n) {
        if (n < 1 || n > 64) {
            return -1002;
        }
        clock += n;
        return clock;
    }
}
