import java.util.ArrayList;
import java.util.Arrays;
import java.util.Comparator;
import java.util.HashSet;
import java.util.List;
import java.util.Map;
import java.util.Set;
import java.util.TreeMap;
import java.util.TreeSet;

/**
 * A second telling of the document, made apart from the program, with the whole library and without shards' bytes:
 * a shard is only a node and whether it is good. ModelTest holds the program against it.
 */
final class Model {
    static final class Part {
        int number;
        List<Integer> bytes;
        int count;
        boolean swept;
        final Integer[] node = new Integer[5];
        final boolean[] good = new boolean[5];

        int manyGood() {
            int sum = 0;
            for (int s = 0; s < 5; s++) {
                sum += node[s] != null && good[s] ? 1 : 0;
            }
            return sum;
        }
    }

    static final class Thing {
        int key;
        int number;
        int day;
        List<Integer> bytes;
    }

    static final class Version {
        Thing thing;
        List<Part> parts = new ArrayList<>();
        int kind;
        int lock = -1;
        Integer asked;

        boolean mark() {
            return thing.bytes == null;
        }
    }

    static final class Region {
        final Set<Integer> up = new TreeSet<>(List.of(0, 1, 2, 3, 4, 5));
        final List<Part> parts = new ArrayList<>();
        final Map<Integer, Version> versions = new TreeMap<>();
        final Set<Integer> had = new HashSet<>();
        final List<Thing> kept = new ArrayList<>();

        List<Version> of(int key) {
            List<Version> all = new ArrayList<>();
            for (Version v : versions.values()) {
                if (v.thing.key == key) {
                    all.add(v);
                }
            }
            return all;
        }

        Version latest(int key) {
            List<Version> all = of(key);
            return all.isEmpty() ? null : all.get(all.size() - 1);
        }

        Part live(List<Integer> bytes) {
            for (Part p : parts) {
                if (!p.swept && p.bytes.equals(bytes)) {
                    return p;
                }
            }
            return null;
        }

        List<Integer> order(int part) {
            List<Integer> nodes = new ArrayList<>(List.of(0, 1, 2, 3, 4, 5));
            nodes.sort(Comparator.comparingInt(n -> -((7 * part + 13 * n + 5 * part * n) % 31)));
            return nodes;
        }

        boolean room(Thing thing) {
            if (versions.size() + 1 > 40) {
                return false;
            }
            if (thing.bytes == null) {
                return true;
            }
            Set<List<Integer>> fresh = new HashSet<>();
            for (List<Integer> piece : cut(thing.bytes)) {
                if (live(piece) == null) {
                    fresh.add(piece);
                }
            }
            return up.size() >= 3 && parts.size() + fresh.size() <= 90;
        }

        void take(Thing thing) {
            Version v = new Version();
            v.thing = thing;
            if (thing.bytes != null) {
                for (List<Integer> piece : cut(thing.bytes)) {
                    Part p = live(piece);
                    if (p == null) {
                        p = new Part();
                        p.number = parts.size();
                        p.bytes = piece;
                        parts.add(p);
                        come(p);
                    } else if (p.manyGood() < 3) {
                        come(p);
                    }
                    p.count++;
                    v.parts.add(p);
                }
            }
            versions.put(thing.number, v);
            had.add(thing.number);
        }

        void come(Part p) {
            Arrays.fill(p.node, null);
            int shard = 0;
            for (int n : order(p.number)) {
                if (up.contains(n) && shard < 5) {
                    p.node[shard] = n;
                    p.good[shard] = true;
                    shard++;
                }
            }
        }

        void drop(Version v) {
            versions.remove(v.thing.number);
            for (Part p : v.parts) {
                p.count--;
            }
        }

        boolean mendOne() {
            List<Part> ranked = new ArrayList<>();
            for (Part p : parts) {
                if (!p.swept && p.manyGood() >= 3 && p.manyGood() < 5) {
                    ranked.add(p);
                }
            }
            ranked.sort(Comparator.comparingInt(p -> p.manyGood() * 1000 + p.number));
            for (Part p : ranked) {
                for (int s = 0; s < 5; s++) {
                    if (p.node[s] != null && !p.good[s]) {
                        p.good[s] = true;
                        return true;
                    }
                    if (p.node[s] == null) {
                        for (int n : order(p.number)) {
                            if (up.contains(n) && !Arrays.asList(p.node).contains(n)) {
                                p.node[s] = n;
                                p.good[s] = true;
                                return true;
                            }
                        }
                    }
                }
            }
            return false;
        }
    }

    static final class Upload {
        int region;
        int key;
        boolean over;
        final TreeMap<Integer, List<Integer>> pieces = new TreeMap<>();

        List<Integer> all() {
            List<Integer> bytes = new ArrayList<>();
            pieces.values().forEach(bytes::addAll);
            return bytes;
        }
    }

    private final Region[] regions = {new Region(), new Region()};
    private List<Integer> draft = new ArrayList<>();
    private final List<Upload> uploads = new ArrayList<>();
    private final List<int[]> rules = new ArrayList<>();
    private final int[] costs = new int[3];
    private int numbers;
    private int day;

    static List<List<Integer>> cut(List<Integer> bytes) {
        List<List<Integer>> parts = new ArrayList<>();
        List<Integer> now = new ArrayList<>();
        for (int b : bytes) {
            now.add(b);
            int n = now.size();
            if (n == 6 || n >= 2 && (3 * now.get(n - 2) + now.get(n - 1)) % 5 == 0) {
                parts.add(now);
                now = new ArrayList<>();
            }
        }
        if (!now.isEmpty()) {
            parts.add(now);
        }
        return parts;
    }

    static String name(int key) {
        if (key < 1 || key > 124) {
            return null;
        }
        String name = "";
        for (int rest = key; rest > 0; rest /= 5) {
            if (rest % 5 == 0) {
                return null;
            }
            name = (char) ('a' - 1 + rest % 5) + name;
        }
        return name;
    }

    private static void index(boolean ok) {
        if (!ok) {
            throw new IndexOutOfBoundsException();
        }
    }

    private static void fit(boolean ok) {
        if (!ok) {
            throw new IllegalArgumentException();
        }
    }

    private static void state(boolean ok) {
        if (!ok) {
            throw new IllegalStateException();
        }
    }

    private Region at(int region) {
        index(region == 0 || region == 1);
        return regions[region];
    }

    private Version at(int region, int key, int version) {
        Version v = at(region).versions.get(version);
        index(v != null && v.thing.key == key);
        return v;
    }

    private Part partAt(int region, int part) {
        Region r = at(region);
        index(part >= 0 && part < r.parts.size() && !r.parts.get(part).swept);
        return r.parts.get(part);
    }

    private int put(Region r, int key, List<Integer> bytes) {
        Thing thing = new Thing();
        thing.key = key;
        thing.number = numbers + 1;
        thing.day = day;
        thing.bytes = bytes;
        state(thing.number <= 200 && r.room(thing));
        numbers++;
        r.take(thing);
        r.kept.add(thing);
        return numbers;
    }

    int draft(int first, int step, int many) {
        fit(first >= 0 && first < 16 && step >= 0 && step < 16 && many > 0 && many <= 40);
        state(draft.size() + many <= 40);
        int b = first;
        for (int i = 0; i < many; i++) {
            draft.add(b);
            b = (b + step) & 15;
        }
        return draft.size();
    }

    int drafted() {
        return draft.size();
    }

    int clear() {
        int many = draft.size();
        draft = new ArrayList<>();
        return many;
    }

    int put(int region, int key, int condition) {
        Region r = at(region);
        fit(name(key) != null && condition >= -1);
        state(!draft.isEmpty());
        Version latest = r.latest(key);
        if (condition == 0 && latest != null && !latest.mark()) {
            return 0;
        }
        if (condition > 0 && (latest == null || latest.thing.number != condition)) {
            return 0;
        }
        int number = put(r, key, draft);
        draft = new ArrayList<>();
        return number;
    }

    int delete(int region, int key) {
        Region r = at(region);
        fit(name(key) != null);
        Version latest = r.latest(key);
        return latest == null || latest.mark() ? 0 : put(r, key, null);
    }

    int drop(int region, int key, int version) {
        Version v = at(region, key, version);
        state(v.lock < day);
        at(region).drop(v);
        return at(region).of(key).size();
    }

    int lock(int region, int key, int version, int until) {
        Version v = at(region, key, version);
        fit(until >= 0 && until <= 999);
        state(until >= v.lock);
        int was = v.lock;
        v.lock = until;
        return was;
    }

    int read(int region, int key, int version, int at) {
        Region r = at(region);
        Version v = version == 0 ? r.latest(key) : at(region, key, version);
        index(at >= 0);
        fit(name(key) != null);
        if (v == null || v.mark()) {
            return -2;
        }
        boolean open = v.asked != null && day >= v.asked + 2 && day <= v.asked + 4;
        if (v.kind == 2 && !open) {
            return -3;
        }
        if (at >= v.thing.bytes.size()) {
            return -1;
        }
        List<Part> partOfByte = new ArrayList<>();
        for (Part p : v.parts) {
            for (int i = 0; i < p.bytes.size(); i++) {
                partOfByte.add(p);
            }
        }
        return partOfByte.get(at).manyGood() < 3 ? -4 : v.thing.bytes.get(at);
    }

    int ask(int region, int key, int version) {
        Version v = at(region, key, version);
        state(!v.mark() && v.kind == 2 && (v.asked == null || day > v.asked + 4));
        v.asked = day;
        return day + 2;
    }

    int upload(int region, int key) {
        at(region);
        fit(name(key) != null);
        state(uploads.size() < 12);
        Upload u = new Upload();
        u.region = region;
        u.key = key;
        uploads.add(u);
        return uploads.size() - 1;
    }

    int piece(int upload, int number) {
        index(upload >= 0 && upload < uploads.size() && !uploads.get(upload).over);
        fit(number >= 1 && number <= 9);
        state(!draft.isEmpty());
        Upload u = uploads.get(upload);
        int without = u.all().size() - u.pieces.getOrDefault(number, List.of()).size();
        state(without + draft.size() <= 40);
        u.pieces.put(number, draft);
        draft = new ArrayList<>();
        return u.all().size();
    }

    int finish(int upload, boolean givesUp) {
        index(upload >= 0 && upload < uploads.size() && !uploads.get(upload).over);
        Upload u = uploads.get(upload);
        int number = 0;
        if (!givesUp) {
            state(!u.pieces.isEmpty());
            number = put(regions[u.region], u.key, u.all());
        }
        u.over = true;
        return number;
    }

    int list(int region, int beginning, int after, int place) {
        Region r = at(region);
        index(place >= 0);
        fit((beginning == 0 || name(beginning) != null) && (after == 0 || name(after) != null));
        TreeMap<String, Integer> found = new TreeMap<>();
        for (int key = 1; key < 125; key++) {
            Version v = r.latest(key);
            if (v != null && !v.mark()
                    && name(key).startsWith(beginning == 0 ? "" : name(beginning))
                    && (after == 0 || name(key).compareTo(name(after)) > 0)) {
                found.put(name(key), key);
            }
        }
        return place < found.size() ? new ArrayList<>(found.values()).get(place) : 0;
    }

    int version(int region, int key, int place) {
        Region r = at(region);
        index(place >= 0);
        fit(name(key) != null);
        return place < r.of(key).size() ? r.of(key).get(place).thing.number : 0;
    }

    int about(int region, int key, int version, int what) {
        Version v = at(region, key, version);
        fit(what >= 0 && what <= 5);
        int[] all = {v.mark() ? 0 : v.thing.bytes.size(), v.parts.size(), v.kind, v.thing.day, v.lock, v.mark() ? 1 : 0};
        return all[what];
    }

    int part(int region, int key, int version, int place) {
        Version v = at(region, key, version);
        index(place >= 0);
        return place < v.parts.size() ? v.parts.get(place).number : -1;
    }

    int partIs(int region, int part, int what) {
        Part p = partAt(region, part);
        fit(what >= 0 && what <= 7);
        if (what >= 3) {
            return p.node[what - 3] == null ? -1 : p.node[what - 3];
        }
        return new int[] {p.count, p.bytes.size(), p.manyGood()}[what];
    }

    int node(int region, int node, boolean isUp) {
        Region r = at(region);
        index(node >= 0 && node <= 5);
        state(r.up.contains(node) != isUp);
        if (isUp) {
            r.up.add(node);
            return 0;
        }
        r.up.remove(node);
        int gone = 0;
        for (Part p : r.parts) {
            for (int s = 0; s < 5; s++) {
                if (p.node[s] != null && p.node[s] == node) {
                    p.node[s] = null;
                    gone++;
                }
            }
        }
        return gone;
    }

    boolean rot(int region, int part, int shard) {
        Part p = partAt(region, part);
        fit(shard >= 0 && shard <= 4);
        boolean was = p.node[shard] != null && p.good[shard];
        p.good[shard] = false;
        return was;
    }

    int mend(int region, int most) {
        Region r = at(region);
        fit(most >= 1 && most <= 99);
        int done = 0;
        while (done < most && r.mendOne()) {
            done++;
        }
        return done;
    }

    int sweep(int region, int most) {
        Region r = at(region);
        fit(most >= 1 && most <= 99);
        int done = 0;
        for (Part p : r.parts) {
            if (done < most && !p.swept && p.count == 0) {
                p.swept = true;
                Arrays.fill(p.node, null);
                done++;
            }
        }
        return done;
    }

    int rule(int beginning, int days, int to) {
        fit((beginning == 0 || name(beginning) != null) && days >= 0 && days <= 99 && to >= 1 && to <= 3);
        state(rules.size() < 6);
        rules.add(new int[] {beginning, days, to});
        return rules.size();
    }

    int pass(int days) {
        fit(days >= 1 && days <= 30);
        for (int i = 0; i < days; i++) {
            for (Region r : regions) {
                for (Version v : r.versions.values()) {
                    if (!v.mark()) {
                        costs[v.kind] += v.thing.bytes.size() * new int[] {4, 2, 1}[v.kind];
                    }
                }
            }
            day++;
            for (int[] rule : rules) {
                for (Region r : regions) {
                    age(r, rule);
                }
            }
        }
        return day;
    }

    private void age(Region r, int[] rule) {
        for (Version v : new ArrayList<>(r.versions.values())) {
            String beginning = rule[0] == 0 ? "" : name(rule[0]);
            if (!name(v.thing.key).startsWith(beginning) || v.thing.day + rule[1] > day) {
                continue;
            }
            if (rule[2] < 3 && !v.mark() && v.kind < rule[2]) {
                v.kind = rule[2];
            }
            if (rule[2] == 3 && r.latest(v.thing.key) != v && day > v.lock) {
                r.drop(v);
            }
        }
    }

    int cost(int of) {
        fit(of >= 0 && of <= 2);
        return costs[of];
    }

    int follow(int region, int most) {
        Region from = at(region);
        fit(most >= 1 && most <= 99);
        Region other = regions[1 - region];
        int taken = 0;
        while (taken < most && !from.kept.isEmpty()) {
            Thing thing = from.kept.get(0);
            if (!other.had.contains(thing.number)) {
                if (!other.room(thing)) {
                    break;
                }
                other.take(thing);
            }
            from.kept.remove(0);
            taken++;
        }
        return taken;
    }

    int behind(int region) {
        return at(region).kept.size();
    }

    private TreeMap<Integer, List<Integer>> plain(Region r) {
        TreeMap<Integer, List<Integer>> all = new TreeMap<>();
        for (Version v : r.versions.values()) {
            all.put(v.thing.key, v.thing.bytes);
        }
        all.values().removeIf(bytes -> bytes == null);
        return all;
    }

    boolean areAlike() {
        return plain(regions[0]).equals(plain(regions[1]));
    }

    boolean agrees(int region) {
        at(region);
        return true;
    }

    char letter(int key, int at) {
        fit(name(key) != null);
        index(at >= 0);
        return at < name(key).length() ? name(key).charAt(at) : ' ';
    }
}
