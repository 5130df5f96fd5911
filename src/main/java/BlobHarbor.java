import java.util.ArrayList;
import java.util.Arrays;

/** A harbour of objects in two regions; DOC.md says what each call answers, does and throws. */
public final class BlobHarbor {
    public static final int NONE = -1;
    public static final int GONE = -2;
    public static final int COLD = -3;
    public static final int LOST = -4;

    private static final int MOST_BYTES = 40;
    private static final int MOST_VERSIONS = 40;
    private static final int MOST_NUMBERS = 200;
    private static final int MOST_PARTS = 90;
    private static final int MOST_UPLOADS = 12;
    private static final int MOST_PIECES = 9;
    private static final int MOST_RULES = 6;
    private static final int MOST_AT_ONCE = 99;
    private static final int HIGHEST_BYTE = 15;
    private static final int PART_BYTES = 6;
    private static final int SHARDS = 5;
    private static final int DATA_SHARDS = 3;
    private static final int SHARD_BYTES = 2;
    private static final int NODES = 6;
    private static final int CLASSES = 3;
    private static final int COLD_CLASS = 2;
    private static final int DROPPING = 3;

    private final Region firstRegion;
    private final Region secondRegion;
    private final Bytes drafted;
    private final Bytes joined;
    private final Bytes noBytes;
    private final ArrayList<Upload> uploads;
    private final ArrayList<Rule> rules;
    private final int[] costs;
    private int numbers;
    private int day;

    public BlobHarbor() {
        firstRegion = new Region();
        secondRegion = new Region();
        drafted = new Bytes();
        joined = new Bytes();
        noBytes = new Bytes();
        uploads = new ArrayList<Upload>();
        rules = new ArrayList<Rule>();
        costs = new int[CLASSES];
    }

    // ---- the draft, objects

    public int draft(int first, int step, int many) throws IllegalArgumentException, IllegalStateException {
        checkRange(first, 0, HIGHEST_BYTE);
        checkRange(step, 0, HIGHEST_BYTE);
        checkRange(many, 1, MOST_BYTES);
        checkState(drafted.many + many <= MOST_BYTES);
        for (int i = 0; i < many; i++) {
            drafted.append((first + i * step) % (HIGHEST_BYTE + 1));
        }
        return drafted.many;
    }

    public int clear() {
        int had = drafted.many;
        drafted.makeEmpty();
        return had;
    }

    public int put(int region, int key, int condition)
            throws IndexOutOfBoundsException, IllegalArgumentException, IllegalStateException {
        Region in = regionOf(region);
        checkKey(key);
        checkArgument(condition >= -1);
        checkState(drafted.many > 0);
        if (!holds(condition, in.latest(key))) {
            return 0;
        }
        int number = store(in, key, drafted);
        drafted.makeEmpty();
        return number;
    }

    public int delete(int region, int key)
            throws IndexOutOfBoundsException, IllegalArgumentException, IllegalStateException {
        Region in = regionOf(region);
        checkKey(key);
        if (!isObject(in.latest(key))) {
            return 0;
        }
        return store(in, key, noBytes);
    }

    public int drop(int region, int key, int version)
            throws IndexOutOfBoundsException, IllegalArgumentException, IllegalStateException {
        Region in = regionOf(region);
        Version found = versionOf(in, key, version);
        checkState(!found.isLocked(day));
        in.takeOut(found);
        return in.manyOf(key);
    }

    public int lock(int region, int key, int version, int until)
            throws IndexOutOfBoundsException, IllegalArgumentException, IllegalStateException {
        Version found = versionOf(regionOf(region), key, version);
        checkRange(until, 0, 999);
        int before = found.lockedUntil;
        checkState(before <= until);
        found.lockedUntil = until;
        return before;
    }

    public int read(int region, int key, int version, int at)
            throws IndexOutOfBoundsException, IllegalArgumentException {
        Region in = regionOf(region);
        checkIndex(at >= 0);
        if (version != 0) {
            return byteOf(in, versionOf(in, key, version), at);
        }
        checkKey(key);
        return byteOf(in, in.latest(key), at);
    }

    public int ask(int region, int key, int version)
            throws IndexOutOfBoundsException, IllegalArgumentException, IllegalStateException {
        Version found = versionOf(regionOf(region), key, version);
        checkState(found.isCold() && !found.isAskedFor(day));
        found.askedOn = day;
        return found.opensOn();
    }

    // ---- uploads

    public int upload(int region, int key)
            throws IndexOutOfBoundsException, IllegalArgumentException, IllegalStateException {
        Region in = regionOf(region);
        checkKey(key);
        checkState(uploads.size() < MOST_UPLOADS);
        uploads.add(new Upload(in, key));
        return uploads.size() - 1;
    }

    public int piece(int upload, int number)
            throws IndexOutOfBoundsException, IllegalArgumentException, IllegalStateException {
        Upload open = openUpload(upload);
        checkRange(number, 1, MOST_PIECES);
        checkState(drafted.many > 0);
        checkState(open.total() - open.manyOf(number) + drafted.many <= MOST_BYTES);
        open.replace(number, drafted);
        drafted.makeEmpty();
        return open.total();
    }

    public int finish(int upload, boolean givesUp) throws IndexOutOfBoundsException, IllegalStateException {
        Upload open = openUpload(upload);
        if (givesUp) {
            open.isOver = true;
            return 0;
        }
        open.joinInto(joined);
        checkState(joined.many > 0);
        int number = store(open.region, open.key, joined);
        open.isOver = true;
        return number;
    }

    // ---- lists, versions

    public int list(int region, int beginning, int after, int place)
            throws IndexOutOfBoundsException, IllegalArgumentException {
        Region in = regionOf(region);
        checkIndex(place >= 0);
        checkBeginning(beginning);
        checkBeginning(after);
        int left = place;
        for (int word = Keys.wordBehind(after); word <= Keys.LAST_WORD; word++) {
            int key = Keys.ofWord(word);
            if (Keys.isKey(key) && Keys.begins(key, beginning) && isObject(in.latest(key))) {
                if (left == 0) {
                    return key;
                }
                left--;
            }
        }
        return 0;
    }

    public int version(int region, int key, int place) throws IndexOutOfBoundsException, IllegalArgumentException {
        Region in = regionOf(region);
        checkIndex(place >= 0);
        checkKey(key);
        return in.numberAt(key, place);
    }

    public int about(int region, int key, int version, int what)
            throws IndexOutOfBoundsException, IllegalArgumentException {
        Version found = versionOf(regionOf(region), key, version);
        checkRange(what, 0, 5);
        switch (what) {
            case 0:
                return found.entry.bytes.many;
            case 1:
                return found.parts.length;
            case 2:
                return found.level;
            case 3:
                return found.entry.day;
            case 4:
                return found.lockedUntil;
            default:
                return found.entry.isMark() ? 1 : 0;
        }
    }

    public int part(int region, int key, int version, int place)
            throws IndexOutOfBoundsException, IllegalArgumentException {
        Version found = versionOf(regionOf(region), key, version);
        checkIndex(place >= 0);
        return place < found.parts.length ? found.parts[place] : NONE;
    }

    // ---- parts, nodes

    public int partIs(int region, int part, int what) throws IndexOutOfBoundsException, IllegalArgumentException {
        Part found = partOf(regionOf(region).store, part);
        checkRange(what, 0, 2 + SHARDS);
        switch (what) {
            case 0:
                return found.count;
            case 1:
                return found.many;
            case 2:
                return found.manyGood();
            default:
                return found.nodeOf(what - 3);
        }
    }

    public int node(int region, int node, boolean isUp) throws IndexOutOfBoundsException, IllegalStateException {
        Store store = regionOf(region).store;
        checkIndex(node >= 0 && node < NODES);
        checkState(store.isUp(node) != isUp);
        store.turn(node, isUp);
        return isUp ? 0 : store.loseShardsOn(node);
    }

    public boolean rot(int region, int part, int shard) throws IndexOutOfBoundsException, IllegalArgumentException {
        Part found = partOf(regionOf(region).store, part);
        checkRange(shard, 0, SHARDS - 1);
        if (!found.isGood(shard)) {
            return false;
        }
        found.spoil(shard);
        return true;
    }

    public int mend(int region, int most) throws IndexOutOfBoundsException, IllegalArgumentException {
        Store store = regionOf(region).store;
        checkRange(most, 1, MOST_AT_ONCE);
        for (int mended = 0; mended < most; mended++) {
            if (!store.mendOne()) {
                return mended;
            }
        }
        return most;
    }

    public int sweep(int region, int most) throws IndexOutOfBoundsException, IllegalArgumentException {
        Store store = regionOf(region).store;
        checkRange(most, 1, MOST_AT_ONCE);
        return store.sweepUnused(most);
    }

    // ---- days, regions

    public int rule(int beginning, int days, int to) throws IllegalArgumentException, IllegalStateException {
        checkBeginning(beginning);
        checkRange(days, 0, 99);
        checkRange(to, 1, DROPPING);
        checkState(rules.size() < MOST_RULES);
        rules.add(new Rule(beginning, days, to));
        return rules.size();
    }

    public int pass(int days) throws IllegalArgumentException {
        checkRange(days, 1, 30);
        for (int i = 0; i < days; i++) {
            firstRegion.charge(costs);
            secondRegion.charge(costs);
            day++;
            beginDay();
        }
        return day;
    }

    public int cost(int of) throws IllegalArgumentException {
        checkRange(of, 0, CLASSES - 1);
        return costs[of];
    }

    public int follow(int region, int most) throws IndexOutOfBoundsException, IllegalArgumentException {
        Region from = regionOf(region);
        Region other = regionOf(1 - region);
        checkRange(most, 1, MOST_AT_ONCE);
        for (int taken = 0; taken < most; taken++) {
            if (!takeFirst(from, other)) {
                return taken;
            }
        }
        return most;
    }

    public int behind(int region) throws IndexOutOfBoundsException {
        return regionOf(region).kept.size();
    }

    public boolean areAlike() {
        for (int key = 1; key <= Keys.HIGHEST; key++) {
            Version first = firstRegion.latest(key);
            Version second = secondRegion.latest(key);
            if (isObject(first) != isObject(second)) {
                return false;
            }
            if (isObject(first) && isObject(second) && !first.entry.bytes.isSame(second.entry.bytes)) {
                return false;
            }
        }
        return true;
    }

    public boolean agrees(int region) throws IndexOutOfBoundsException {
        return regionOf(region).isSound();
    }

    public char letter(int key, int at) throws IllegalArgumentException, IndexOutOfBoundsException {
        checkKey(key);
        checkIndex(at >= 0);
        int digit = Keys.digit(key, at);
        return digit == 0 ? ' ' : (char) ('a' + digit - 1);
    }

    // ---- what several calls need

    private static void checkIndex(boolean isThere) {
        if (!isThere) {
            throw new IndexOutOfBoundsException("there is none such");
        }
    }

    private static void checkArgument(boolean isFit) {
        if (!isFit) {
            throw new IllegalArgumentException("an argument is out of its range");
        }
    }

    private static void checkState(boolean isFit) {
        if (!isFit) {
            throw new IllegalStateException("it cannot be done now");
        }
    }

    private static void checkRange(int value, int least, int most) {
        checkArgument(value >= least && value <= most);
    }

    private static void checkKey(int key) {
        checkArgument(Keys.isKey(key));
    }

    private static void checkBeginning(int beginning) {
        checkArgument(beginning == 0 || Keys.isKey(beginning));
    }

    private Region regionOf(int region) {
        checkIndex(region == 0 || region == 1);
        return region == 0 ? firstRegion : secondRegion;
    }

    // A key that is none has no version, so it is told by this exception and needs no test of its own.
    private static Version versionOf(Region in, int key, int number) {
        Version found = in.find(key, number);
        if (found == null) {
            throw new IndexOutOfBoundsException("there is no such version");
        }
        return found;
    }

    private static Part partOf(Store store, int number) {
        Part found = store.partAt(number);
        if (found == null) {
            throw new IndexOutOfBoundsException("there is no such part");
        }
        return found;
    }

    private Upload openUpload(int number) {
        checkIndex(number >= 0 && number < uploads.size());
        Upload found = uploads.get(number);
        checkIndex(!found.isOver);
        return found;
    }

    private static boolean isObject(Version version) {
        return version != null && !version.entry.isMark();
    }

    private static boolean holds(int condition, Version latest) {
        if (condition == -1) {
            return true;
        }
        if (condition == 0) {
            return !isObject(latest);
        }
        return latest != null && latest.entry.number == condition;
    }

    private int byteOf(Region in, Version version, int at) {
        if (version == null || version.entry.isMark()) {
            return GONE;
        }
        if (version.isCold() && !version.isOpen(day)) {
            return COLD;
        }
        if (at >= version.entry.bytes.many) {
            return NONE;
        }
        return in.store.byteAt(version.parts, at);
    }

    // Without bytes it is a mark. The bytes are copied, since the caller's row is used again.
    private int store(Region in, int key, Bytes bytes) {
        checkState(numbers < MOST_NUMBERS && in.hasRoom(bytes));
        numbers++;
        Entry entry = new Entry(key, numbers, day);
        entry.bytes.appendAll(bytes);
        in.take(entry);
        in.kept.add(entry);
        return numbers;
    }

    private boolean takeFirst(Region from, Region other) {
        if (from.kept.isEmpty()) {
            return false;
        }
        Entry entry = from.kept.get(0);
        boolean isKnown = other.hadNumber(entry.number);
        if (!isKnown && !other.hasRoom(entry.bytes)) {
            return false;
        }
        if (!isKnown) {
            other.take(entry);
        }
        from.kept.remove(0);
        return true;
    }

    private void beginDay() {
        for (int i = 0; i < rules.size(); i++) {
            firstRegion.age(rules.get(i), day);
            secondRegion.age(rules.get(i), day);
        }
    }

    /**
     * Keys as numbers and as words: a word is a key filled up behind with 0 to three digits,
     * so that the order of words is that of numbers.
     */
    private static final class Keys {
        private static final int BASE = 5;
        private static final int SQUARE = 25;
        private static final int HIGHEST = 124;
        private static final int FIRST_WORD = 25;
        private static final int LAST_WORD = 124;

        static boolean isKey(int key) {
            if (key < 1 || key > HIGHEST || key % BASE == 0) {
                return false;
            }
            return key < SQUARE || key / BASE % BASE != 0;
        }

        static int lettersOf(int key) {
            if (key < BASE) {
                return 1;
            }
            return key < SQUARE ? 2 : 3;
        }

        static int asWord(int key) {
            int letters = lettersOf(key);
            if (letters == 1) {
                return key * SQUARE;
            }
            return letters == 2 ? key * BASE : key;
        }

        static int wordBehind(int key) {
            return key == 0 ? FIRST_WORD : asWord(key) + 1;
        }

        // What it answers for a word with 0 between letters is no key.
        static int ofWord(int word) {
            if (word % SQUARE == 0) {
                return word / SQUARE;
            }
            return word % BASE == 0 ? word / BASE : word;
        }

        static boolean begins(int key, int beginning) {
            return beginning == 0 || key == beginning || key / BASE == beginning || key / SQUARE == beginning;
        }

        static int digit(int key, int at) {
            int word = asWord(key);
            switch (at) {
                case 0:
                    return word / SQUARE;
                case 1:
                    return word / BASE % BASE;
                case 2:
                    return word % BASE;
                default:
                    return 0;
            }
        }
    }

    /** Up to 40 bytes in a row. */
    private static final class Bytes {
        private final byte[] row = new byte[MOST_BYTES];
        private int many;

        int at(int place) {
            return place >= 0 && place < row.length ? row[place] : 0;
        }

        void append(int value) {
            if (many >= 0 && many < row.length) {
                row[many] = (byte) value;
                many++;
            }
        }

        void appendAll(Bytes other) {
            for (int i = 0; i < other.many; i++) {
                append(other.at(i));
            }
        }

        void makeEmpty() {
            many = 0;
        }

        boolean isSame(Bytes other) {
            if (many != other.many) {
                return false;
            }
            for (int i = 0; i < many; i++) {
                if (at(i) != other.at(i)) {
                    return false;
                }
            }
            return true;
        }
    }

    /** What was put or deleted, as it was; both regions may have it, and it never changes. */
    private static final class Entry {
        private final int key;
        private final int number;
        private final int day;
        private final Bytes bytes = new Bytes();

        Entry(int key, int number, int day) {
            this.key = key;
            this.number = number;
            this.day = day;
        }

        boolean isMark() {
            return bytes.many == 0;
        }
    }

    /** An entry as one region has it. */
    private static final class Version {
        private static final int NEVER = -1;
        private static final int WAIT = 2;
        private static final int OPEN_DAYS = 3;

        private final Entry entry;
        private final int[] parts;
        private int level;
        private int lockedUntil = -1;
        private int askedOn = NEVER;

        Version(Entry entry, int[] parts) {
            this.entry = entry;
            this.parts = parts;
        }

        boolean isLocked(int day) {
            return day <= lockedUntil;
        }

        boolean isCold() {
            return level == COLD_CLASS;
        }

        int opensOn() {
            return askedOn + WAIT;
        }

        boolean isAskedFor(int day) {
            return askedOn != NEVER && day < opensOn() + OPEN_DAYS;
        }

        boolean isOpen(int day) {
            return isAskedFor(day) && day >= opensOn();
        }
    }

    /** A rule of ageing. */
    private static final class Rule {
        private final int beginning;
        private final int days;
        private final int to;

        Rule(int beginning, int days, int to) {
            this.beginning = beginning;
            this.days = days;
            this.to = to;
        }

        boolean isFor(Entry entry, int day) {
            return Keys.begins(entry.key, beginning) && day - entry.day >= days;
        }
    }

    /** An upload; a piece without bytes is none. */
    private static final class Upload {
        private final Region region;
        private final int key;
        private final Bytes[] pieces = new Bytes[MOST_PIECES];
        private boolean isOver;

        Upload(Region region, int key) {
            this.region = region;
            this.key = key;
            for (int i = 0; i < pieces.length; i++) {
                pieces[i] = new Bytes();
            }
        }

        int manyOf(int number) {
            return number >= 1 && number <= pieces.length ? pieces[number - 1].many : 0;
        }

        int total() {
            int sum = 0;
            for (int number = 1; number <= pieces.length; number++) {
                sum += manyOf(number);
            }
            return sum;
        }

        void replace(int number, Bytes bytes) {
            if (number >= 1 && number <= pieces.length) {
                pieces[number - 1].makeEmpty();
                pieces[number - 1].appendAll(bytes);
            }
        }

        void joinInto(Bytes whole) {
            whole.makeEmpty();
            for (int i = 0; i < pieces.length; i++) {
                whole.appendAll(pieces[i]);
            }
        }
    }

    /** Where the parts of bytes begin and end; its rows are used again for all bytes. */
    private static final class Cut {
        private final int[] starts = new int[MOST_BYTES];
        private final int[] ends = new int[MOST_BYTES];
        private int many;

        void cut(Bytes bytes) {
            many = 0;
            int start = 0;
            for (int end = 1; end <= bytes.many; end++) {
                if (end == bytes.many || endsPart(bytes, start, end)) {
                    addPart(start, end);
                    start = end;
                }
            }
        }

        private static boolean endsPart(Bytes bytes, int start, int end) {
            int length = end - start;
            if (length == PART_BYTES) {
                return true;
            }
            return length >= 2 && (3 * bytes.at(end - 2) + bytes.at(end - 1)) % 5 == 0;
        }

        private void addPart(int start, int end) {
            if (many >= 0 && many < starts.length && many < ends.length) {
                starts[many] = start;
                ends[many] = end;
                many++;
            }
        }

        int endOf(int place) {
            return place >= 0 && place < ends.length ? ends[place] : 0;
        }

        int startOf(int place) {
            return place >= 0 && place < starts.length ? starts[place] : 0;
        }
    }

    /** A part with its shards. */
    private static final class Part {
        private final int number;
        private final int many;
        private final byte[] bytes = new byte[PART_BYTES];
        private final byte[] shardBytes = new byte[SHARDS * SHARD_BYTES];
        private final int[] nodes = new int[SHARDS];
        private final boolean[] rotten = new boolean[SHARDS];
        private int count;
        private boolean isSwept;

        Part(int number, Bytes from, int start, int end) {
            this.number = number;
            many = end - start;
            for (int i = 0; i < many && i < bytes.length; i++) {
                bytes[i] = (byte) from.at(start + i);
            }
            Arrays.fill(nodes, NONE);
        }

        boolean isSame(Bytes other, int start, int end) {
            if (many != end - start) {
                return false;
            }
            for (int i = 0; i < many && i < bytes.length; i++) {
                if (bytes[i] != other.at(start + i)) {
                    return false;
                }
            }
            return true;
        }

        int nodeOf(int shard) {
            return shard >= 0 && shard < nodes.length ? nodes[shard] : NONE;
        }

        boolean isGood(int shard) {
            return nodeOf(shard) != NONE && shard < rotten.length && !rotten[shard];
        }

        int manyGood() {
            int good = 0;
            for (int shard = 0; shard < SHARDS; shard++) {
                if (isGood(shard)) {
                    good++;
                }
            }
            return good;
        }

        boolean canBeRead() {
            return manyGood() >= DATA_SHARDS;
        }

        boolean isOn(int node) {
            for (int shard = 0; shard < nodes.length; shard++) {
                if (nodes[shard] == node) {
                    return true;
                }
            }
            return false;
        }

        int shardByte(int shard, int at) {
            int place = shard * SHARD_BYTES + at;
            return place >= 0 && place < shardBytes.length ? shardBytes[place] : 0;
        }

        private void setShardByte(int shard, int at, int value) {
            int place = shard * SHARD_BYTES + at;
            if (place >= 0 && place < shardBytes.length) {
                shardBytes[place] = (byte) value;
            }
        }

        void place(int shard, int node, Code code) {
            if (shard >= 0 && shard < SHARDS) {
                nodes[shard] = node;
                rotten[shard] = false;
                for (int at = 0; at < SHARD_BYTES; at++) {
                    setShardByte(shard, at, code.codedByte(shard, at));
                }
            }
        }

        // The bytes are spoilt in earnest, so that a read that used them would be seen by agrees.
        void spoil(int shard) {
            if (shard >= 0 && shard < SHARDS) {
                rotten[shard] = true;
                for (int at = 0; at < SHARD_BYTES; at++) {
                    setShardByte(shard, at, HIGHEST_BYTE - shardByte(shard, at));
                }
            }
        }

        int loseOn(int node) {
            int lost = 0;
            for (int shard = 0; shard < nodes.length; shard++) {
                if (nodes[shard] == node) {
                    nodes[shard] = NONE;
                    lost++;
                }
            }
            return lost;
        }

        void loseAll() {
            Arrays.fill(nodes, NONE);
        }
    }

    /** Codes bytes into shards, and finds them again from three of them; its rows are used again for all parts. */
    private static final class Code {
        // Three for each shard: by what the bytes of the shards 0, 1, 2 are multiplied, ahead of being summed.
        private static final int[] FACTORS = {1, 0, 0, 0, 1, 0, 0, 0, 1, 1, 1, 1, 1, 2, 4};
        private static final int FIELD_BITS = 4;
        private static final int MODULUS = 19;
        // A number of the field, 0 aside, is 1 to the power of 15, so this power of it is its inverse.
        private static final int INVERTING_POWER = 14;

        private final byte[] plain = new byte[PART_BYTES];
        private final byte[] coded = new byte[SHARDS * SHARD_BYTES];
        private final int[] lowest = new int[DATA_SHARDS];
        private final int[] values = new int[DATA_SHARDS];

        static int times(int left, int right) {
            int product = 0;
            for (int bit = 0; bit < FIELD_BITS; bit++) {
                if ((right >> bit & 1) == 1) {
                    product ^= left << bit;
                }
            }
            for (int bit = FIELD_BITS - 2; bit >= 0; bit--) {
                if ((product >> (bit + FIELD_BITS) & 1) == 1) {
                    product ^= MODULUS << bit;
                }
            }
            return product;
        }

        static int inverse(int number) {
            int power = 1;
            for (int i = 0; i < INVERTING_POWER; i++) {
                power = times(power, number);
            }
            return power;
        }

        static int factor(int shard, int pair) {
            int place = shard * DATA_SHARDS + pair;
            return place >= 0 && place < FACTORS.length ? FACTORS[place] : 0;
        }

        int plainByte(int place) {
            return place >= 0 && place < plain.length ? plain[place] : 0;
        }

        int codedByte(int shard, int at) {
            int place = shard * SHARD_BYTES + at;
            return place >= 0 && place < coded.length ? coded[place] : 0;
        }

        void takePlain(Part part) {
            for (int i = 0; i < plain.length && i < part.bytes.length; i++) {
                plain[i] = part.bytes[i];
            }
        }

        void encodePlain() {
            for (int place = 0; place < coded.length; place++) {
                int sum = 0;
                for (int pair = 0; pair < DATA_SHARDS; pair++) {
                    int value = plainByte(pair * SHARD_BYTES + place % SHARD_BYTES);
                    sum ^= times(factor(place / SHARD_BYTES, pair), value);
                }
                coded[place] = (byte) sum;
            }
        }

        boolean decode(Part part) {
            if (!findLowest(part)) {
                return false;
            }
            for (int place = 0; place < plain.length; place++) {
                int pair = place / SHARD_BYTES;
                int at = place % SHARD_BYTES;
                plain[place] = (byte) (part.isGood(pair) ? part.shardByte(pair, at) : solve(part, pair, at));
            }
            return true;
        }

        private boolean findLowest(Part part) {
            int found = 0;
            for (int shard = 0; shard < SHARDS && found < lowest.length; shard++) {
                if (part.isGood(shard)) {
                    lowest[found] = shard;
                    found++;
                }
            }
            return found == lowest.length;
        }

        // Cramer's rule, without signs, since in this field each number is its own negative.
        private int solve(Part part, int pair, int at) {
            for (int row = 0; row < values.length; row++) {
                values[row] = part.shardByte(lowest[row], at);
            }
            return times(determinant(pair), inverse(determinant(NONE)));
        }

        private int determinant(int replaced) {
            int sum = 0;
            for (int row = 0; row < DATA_SHARDS; row++) {
                int next = (row + 1) % DATA_SHARDS;
                int last = (row + 2) % DATA_SHARDS;
                int minor = times(cell(next, 1, replaced), cell(last, 2, replaced))
                        ^ times(cell(last, 1, replaced), cell(next, 2, replaced));
                sum ^= times(cell(row, 0, replaced), minor);
            }
            return sum;
        }

        private int cell(int row, int column, int replaced) {
            if (row < 0 || row >= DATA_SHARDS) {
                return 0;
            }
            return column == replaced ? values[row] : factor(lowest[row], column);
        }
    }

    /** The nodes and parts of a region. */
    private static final class Store {
        private final boolean[] up = new boolean[NODES];
        private final ArrayList<Part> parts = new ArrayList<Part>();
        private final Cut cut = new Cut();
        private final Code code = new Code();
        private final int[] tally = new int[MOST_PARTS];

        Store() {
            for (int node = 0; node < up.length; node++) {
                up[node] = true;
            }
        }

        boolean isUp(int node) {
            return node >= 0 && node < up.length && up[node];
        }

        void turn(int node, boolean isUp) {
            if (node >= 0 && node < up.length) {
                up[node] = isUp;
            }
        }

        int loseShardsOn(int node) {
            int lost = 0;
            for (int i = 0; i < parts.size(); i++) {
                lost += parts.get(i).loseOn(node);
            }
            return lost;
        }

        Part partAt(int number) {
            if (number < 0 || number >= parts.size() || parts.get(number).isSwept) {
                return null;
            }
            return parts.get(number);
        }

        int manyUp() {
            int many = 0;
            for (int node = 0; node < NODES; node++) {
                if (isUp(node)) {
                    many++;
                }
            }
            return many;
        }

        // How many parts there would be ever with these bytes.
        int manyEverWith(Bytes bytes) {
            cut.cut(bytes);
            int many = parts.size();
            for (int i = 0; i < cut.many; i++) {
                if (find(bytes, cut.startOf(i), cut.endOf(i)) == null && isFirstInCut(bytes, i)) {
                    many++;
                }
            }
            return many;
        }

        private boolean isFirstInCut(Bytes bytes, int place) {
            for (int i = 0; i < place; i++) {
                if (areSame(bytes, i, place)) {
                    return false;
                }
            }
            return true;
        }

        private boolean areSame(Bytes bytes, int one, int other) {
            int length = cut.endOf(one) - cut.startOf(one);
            if (length != cut.endOf(other) - cut.startOf(other)) {
                return false;
            }
            for (int i = 0; i < length; i++) {
                if (bytes.at(cut.startOf(one) + i) != bytes.at(cut.startOf(other) + i)) {
                    return false;
                }
            }
            return true;
        }

        private Part find(Bytes bytes, int start, int end) {
            for (int i = 0; i < parts.size(); i++) {
                Part part = parts.get(i);
                if (!part.isSwept && part.isSame(bytes, start, end)) {
                    return part;
                }
            }
            return null;
        }

        int[] takeIn(Bytes bytes) {
            cut.cut(bytes);
            int[] taken = new int[Math.max(cut.many, 0)];
            for (int i = 0; i < taken.length; i++) {
                Part part = findOrAdd(bytes, cut.startOf(i), cut.endOf(i));
                if (!part.canBeRead()) {
                    spread(part);
                }
                part.count++;
                taken[i] = part.number;
            }
            return taken;
        }

        // A part that is added has no shards yet.
        private Part findOrAdd(Bytes bytes, int start, int end) {
            Part part = find(bytes, start, end);
            if (part == null) {
                part = new Part(parts.size(), bytes, start, end);
                parts.add(part);
            }
            return part;
        }

        private void spread(Part part) {
            part.loseAll();
            code.takePlain(part);
            code.encodePlain();
            for (int shard = 0; shard < SHARDS; shard++) {
                int node = freeNode(part);
                if (node != NONE) {
                    part.place(shard, node, code);
                }
            }
        }

        private int freeNode(Part part) {
            int best = NONE;
            int bestRank = -1;
            for (int node = 0; node < NODES; node++) {
                int rank = (7 * part.number + 13 * node + 5 * part.number * node) % 31;
                if (isUp(node) && !part.isOn(node) && rank > bestRank) {
                    best = node;
                    bestRank = rank;
                }
            }
            return best;
        }

        void letGo(int[] numbers) {
            for (int i = 0; i < numbers.length; i++) {
                Part part = partAt(numbers[i]);
                if (part != null) {
                    part.count--;
                }
            }
        }

        int byteAt(int[] numbers, int at) {
            int start = 0;
            for (int i = 0; i < numbers.length; i++) {
                Part part = partAt(numbers[i]);
                if (part == null) {
                    return LOST;
                }
                if (at < start + part.many) {
                    return code.decode(part) ? code.plainByte(at - start) : LOST;
                }
                start += part.many;
            }
            return NONE;
        }

        boolean mendOne() {
            for (int good = DATA_SHARDS; good < SHARDS; good++) {
                for (int i = 0; i < parts.size(); i++) {
                    Part part = parts.get(i);
                    if (!part.isSwept && part.manyGood() == good && mendShard(part)) {
                        return true;
                    }
                }
            }
            return false;
        }

        private boolean mendShard(Part part) {
            for (int shard = 0; shard < SHARDS; shard++) {
                int node = part.nodeOf(shard) == NONE ? freeNode(part) : part.nodeOf(shard);
                if (!part.isGood(shard) && node != NONE && code.decode(part)) {
                    code.encodePlain();
                    part.place(shard, node, code);
                    return true;
                }
            }
            return false;
        }

        int sweepUnused(int most) {
            int swept = 0;
            for (int i = 0; i < parts.size() && swept < most; i++) {
                Part part = parts.get(i);
                if (!part.isSwept && part.count == 0) {
                    part.loseAll();
                    part.isSwept = true;
                    swept++;
                }
            }
            return swept;
        }

        boolean isAsPut(Version version) {
            int at = 0;
            for (int i = 0; i < version.parts.length; i++) {
                Part part = partAt(version.parts[i]);
                if (part == null) {
                    return false;
                }
                boolean isRead = code.decode(part);
                for (int j = 0; j < part.many; j++) {
                    if (isRead && code.plainByte(j) != version.entry.bytes.at(at)) {
                        return false;
                    }
                    at++;
                }
            }
            return at == version.entry.bytes.many;
        }

        void beginTally() {
            Arrays.fill(tally, 0);
        }

        void tallyUp(int[] numbers) {
            for (int i = 0; i < numbers.length; i++) {
                int number = numbers[i];
                if (number >= 0 && number < tally.length) {
                    tally[number]++;
                }
            }
        }

        boolean isTallied() {
            for (int i = 0; i < parts.size() && i < tally.length; i++) {
                if (parts.get(i).count != tally[i]) {
                    return false;
                }
            }
            return true;
        }
    }

    /** A region: its versions by rising numbers, and what is kept of it for the other one. */
    private static final class Region {
        private final Store store = new Store();
        private final ArrayList<Version> versions = new ArrayList<Version>();
        private final ArrayList<Entry> kept = new ArrayList<Entry>();
        private final boolean[] had = new boolean[MOST_NUMBERS + 1];

        Version latest(int key) {
            for (int i = versions.size() - 1; i >= 0; i--) {
                if (versions.get(i).entry.key == key) {
                    return versions.get(i);
                }
            }
            return null;
        }

        Version find(int key, int number) {
            for (int i = 0; i < versions.size(); i++) {
                Entry entry = versions.get(i).entry;
                if (entry.key == key && entry.number == number) {
                    return versions.get(i);
                }
            }
            return null;
        }

        int manyOf(int key) {
            int many = 0;
            for (int i = 0; i < versions.size(); i++) {
                if (versions.get(i).entry.key == key) {
                    many++;
                }
            }
            return many;
        }

        int numberAt(int key, int place) {
            int left = place;
            for (int i = 0; i < versions.size(); i++) {
                Entry entry = versions.get(i).entry;
                if (entry.key == key) {
                    if (left == 0) {
                        return entry.number;
                    }
                    left--;
                }
            }
            return 0;
        }

        boolean hadNumber(int number) {
            return number >= 0 && number < had.length && had[number];
        }

        // A mark, which has no bytes, needs neither nodes nor parts.
        boolean hasRoom(Bytes bytes) {
            if (versions.size() >= MOST_VERSIONS || bytes.many == 0) {
                return versions.size() < MOST_VERSIONS;
            }
            return store.manyUp() >= DATA_SHARDS && store.manyEverWith(bytes) <= MOST_PARTS;
        }

        void take(Entry entry) {
            int place = versions.size();
            for (int i = versions.size() - 1; i >= 0 && versions.get(i).entry.number > entry.number; i--) {
                place = i;
            }
            versions.add(place, new Version(entry, store.takeIn(entry.bytes)));
            if (entry.number >= 0 && entry.number < had.length) {
                had[entry.number] = true;
            }
        }

        void takeOut(Version version) {
            for (int i = versions.size() - 1; i >= 0; i--) {
                if (versions.get(i).entry.number == version.entry.number) {
                    store.letGo(version.parts);
                    versions.remove(i);
                    return;
                }
            }
        }

        void age(Rule rule, int day) {
            for (int i = versions.size() - 1; i >= 0; i--) {
                Version version = versions.get(i);
                if (rule.isFor(version.entry, day)) {
                    ageOne(version, rule.to, day);
                }
            }
        }

        private void ageOne(Version version, int to, int day) {
            if (to != DROPPING) {
                if (!version.entry.isMark()) {
                    version.level = Math.max(version.level, to);
                }
                return;
            }
            Version latest = latest(version.entry.key);
            boolean isLatest = latest != null && latest.entry.number == version.entry.number;
            if (!isLatest && !version.isLocked(day)) {
                takeOut(version);
            }
        }

        void charge(int[] costs) {
            for (int i = 0; i < versions.size(); i++) {
                Version version = versions.get(i);
                if (version.level >= 0 && version.level < costs.length) {
                    costs[version.level] += version.entry.bytes.many * (4 >> version.level);
                }
            }
        }

        boolean isSound() {
            store.beginTally();
            for (int i = 0; i < versions.size(); i++) {
                Version version = versions.get(i);
                if (!store.isAsPut(version)) {
                    return false;
                }
                store.tallyUp(version.parts);
            }
            return store.isTallied();
        }
    }
}
