/** Each promise of the document by itself: ordinary inputs, the edges that it names, wrong inputs. */
public final class PromiseTest {
    private static final Class<?> INDEX = IndexOutOfBoundsException.class;
    private static final Class<?> ARGUMENT = IllegalArgumentException.class;
    private static final Class<?> STATE = IllegalStateException.class;
    private static final int MIN = Integer.MIN_VALUE;
    private static final int MAX = Integer.MAX_VALUE;
    private static final int[] NO_KEYS = {MIN, -1, 0, 5, 10, 25, 26, 27, 28, 29, 30, 50, 55, 120, 125, 126, 156, MAX};

    private final Check check = new Check("PromiseTest");

    public static void main(String[] args) {
        PromiseTest test = new PromiseTest();
        test.newObject();
        test.draftAndClear();
        test.put();
        test.cuts();
        test.partsAreShared();
        test.full();
        test.delete();
        test.drop();
        test.lock();
        test.read();
        test.readOrder();
        test.ask();
        test.uploads();
        test.uploadFull();
        test.list();
        test.version();
        test.about();
        test.part();
        test.partIs();
        test.orderOfNodes();
        test.node();
        test.rot();
        test.anyThreeShards();
        test.mend();
        test.mendByRank();
        test.comesAnew();
        test.sweep();
        test.rules();
        test.ruleDrops();
        test.passAndCost();
        test.follow();
        test.followStays();
        test.followMarks();
        test.areAlike();
        test.agrees();
        test.letter();
        test.check.end();
    }

    // ---- helpers

    private static void bytes(BlobHarbor x, int... bytes) {
        for (int b : bytes) {
            x.draft(b, 0, 1);
        }
    }

    private static int put(BlobHarbor x, int region, int key, int... bytes) {
        x.clear();
        bytes(x, bytes);
        return x.put(region, key, -1);
    }

    private static String read(BlobHarbor x, int region, int key, int version) {
        StringBuilder all = new StringBuilder();
        for (int at = 0; at < 41; at++) {
            int b = x.read(region, key, version, at);
            if (b < 0) {
                return all.append(b).toString();
            }
            all.append(b).append(' ');
        }
        return all.toString();
    }

    private static String lengths(BlobHarbor x, int region, int key, int version) {
        StringBuilder all = new StringBuilder();
        for (int i = 0; i < x.about(region, key, version, 1); i++) {
            all.append(x.partIs(region, x.part(region, key, version, i), 1));
        }
        return all.toString();
    }

    private static String parts(BlobHarbor x, int region, int key, int version) {
        StringBuilder all = new StringBuilder();
        for (int i = 0; x.part(region, key, version, i) != -1; i++) {
            all.append(x.part(region, key, version, i)).append(' ');
        }
        return all.toString();
    }

    private static String nodes(BlobHarbor x, int region, int part) {
        StringBuilder all = new StringBuilder();
        for (int what = 3; what < 8; what++) {
            all.append(x.partIs(region, part, what)).append(' ');
        }
        return all.toString();
    }

    private static String versions(BlobHarbor x, int region, int key) {
        StringBuilder all = new StringBuilder();
        for (int i = 0; x.version(region, key, i) != 0; i++) {
            all.append(x.version(region, key, i)).append(' ');
        }
        return all.toString();
    }

    // ---- the promises

    private void newObject() {
        BlobHarbor x = new BlobHarbor();
        check.is("clear of a new one", x.clear(), 0);
        for (int region = 0; region < 2; region++) {
            check.is("list", x.list(region, 0, 0, 0), 0);
            check.is("behind", x.behind(region), 0);
            check.is("agrees", x.agrees(region), true);
            for (int node = 0; node < 6; node++) {
                int r = region;
                int n = node;
                check.refuses("node up", STATE, () -> x.node(r, n, true));
            }
        }
        check.is("areAlike", x.areAlike(), true);
        for (int of = 0; of < 3; of++) {
            check.is("cost", x.cost(of), 0);
        }
        put(x, 0, 1, 1);
        check.is("the first day", x.about(0, 1, 1, 3), 0);
        check.is("pass", x.pass(1), 1);
        check.is("NONE", BlobHarbor.NONE, -1);
        check.is("GONE", BlobHarbor.GONE, -2);
        check.is("COLD", BlobHarbor.COLD, -3);
        check.is("LOST", BlobHarbor.LOST, -4);
    }

    private void draftAndClear() {
        BlobHarbor x = new BlobHarbor();
        int[][] wrong = {{-1, 0, 1}, {16, 0, 1}, {0, -1, 1}, {0, 16, 1}, {0, 0, 0}, {0, 0, 41}, {MIN, 0, 1},
            {0, MAX, 1}, {0, 0, MAX}, {0, 0, MIN}};
        for (int[] w : wrong) {
            check.refuses("draft", ARGUMENT, () -> x.draft(w[0], w[1], w[2]));
        }
        check.is("draft", x.draft(0, 0, 40), 40);
        check.refuses("draft beyond 40", STATE, () -> x.draft(0, 0, 1));
        check.refuses("draft out of range beyond 40", ARGUMENT, () -> x.draft(16, 0, 1));
        check.is("clear", x.clear(), 40);
        check.is("clear", x.clear(), 0);
        check.is("draft", x.draft(14, 1, 4), 4);
        check.is("draft", x.draft(3, 15, 5), 9);
        check.refuses("draft beyond 40", STATE, () -> x.draft(0, 0, 32));
        check.is("draft up to 40", x.draft(15, 15, 31), 40);
        x.put(0, 1, -1);
        check.is("bytes", read(x, 0, 1, 0), "14 15 0 1 3 2 1 0 15 15 14 13 12 11 10 9 8 7 6 5 4 3 2 1 0 15 14 13 12 11 10 9 8 7 6 5 4 3 2 1 -1");
    }

    private void put() {
        BlobHarbor x = new BlobHarbor();
        check.refuses("put of nothing", STATE, () -> x.put(0, 1, -1));
        check.refuses("put of nothing, the condition not holding", STATE, () -> x.put(0, 1, 5));
        bytes(x, 1, 2, 3);
        for (int region : new int[] {MIN, -1, 2, MAX}) {
            check.refuses("put in no region", INDEX, () -> x.put(region, 0, -2));
        }
        for (int key : NO_KEYS) {
            check.refuses("put of the key " + key, ARGUMENT, () -> x.put(0, key, -1));
        }
        check.refuses("put", ARGUMENT, () -> x.put(0, 1, -2));
        check.refuses("put", ARGUMENT, () -> x.put(0, 1, MIN));
        check.is("put if 1", x.put(0, 1, 1), 0);
        check.is("put if 200", x.put(0, 1, MAX), 0);
        check.is("put if none", x.put(0, 1, 0), 1);
        check.is("the draft is empty", x.clear(), 0);
        bytes(x, 4);
        check.is("put if none", x.put(0, 1, 0), 0);
        check.is("put if 2", x.put(0, 1, 2), 0);
        check.is("put if 1 of another key", x.put(0, 2, 1), 0);
        check.is("put if 1 in the other region", x.put(1, 1, 1), 0);
        check.is("the draft stays", x.clear(), 1);
        bytes(x, 5);
        check.is("put if 1", x.put(0, 1, 1), 2);
        check.is("delete", x.delete(0, 1), 3);
        bytes(x, 6);
        check.is("put if 2", x.put(0, 1, 2), 0);
        check.is("put if 3, a mark", x.put(0, 1, 3), 4);
        x.delete(0, 1);
        bytes(x, 7);
        check.is("put if a mark", x.put(0, 1, 0), 6);
        check.is("numbers are over both regions", put(x, 1, 124, 1), 7);
        check.is("versions", versions(x, 0, 1), "1 2 3 4 5 6 ");
    }

    private void cuts() {
        int[][] objects = {{1, 2}, {0, 0}, {1, 1}, {1, 3, 4, 3}, {1, 1, 1, 1, 1, 1, 1}, {15, 15, 15},
            {1, 1, 1, 1, 1, 2}, {5, 5, 5, 5}, {9}, {1, 1, 1, 1, 1, 1, 2}, {0, 1, 2}, {1, 1, 1, 1, 1, 1, 1, 1, 1, 1, 1, 1, 1}};
        String[] due = {"2", "2", "2", "4", "61", "21", "6", "22", "1", "61", "3", "661"};
        for (int i = 0; i < objects.length; i++) {
            BlobHarbor x = new BlobHarbor();
            put(x, 0, 1, objects[i]);
            check.is("lengths of " + i, lengths(x, 0, 1, 1), due[i]);
        }
        BlobHarbor x = new BlobHarbor();
        x.draft(0, 0, 39);
        x.put(0, 1, -1);
        check.is("39 bytes 0", lengths(x, 0, 1, 1), "22222222222222222221");
        check.is("two parts", parts(x, 0, 1, 1), "0 0 0 0 0 0 0 0 0 0 0 0 0 0 0 0 0 0 0 1 ");
        check.is("count", x.partIs(0, 0, 0), 19);
    }

    private void partsAreShared() {
        BlobHarbor x = new BlobHarbor();
        put(x, 0, 1, 1, 2, 3, 1, 1, 2);
        check.is("parts", parts(x, 0, 1, 1), "0 1 0 ");
        check.is("count", x.partIs(0, 0, 0), 2);
        put(x, 0, 2, 3, 1, 1);
        check.is("a part found again, and a shorter one", parts(x, 0, 2, 2), "1 2 ");
        check.is("count", x.partIs(0, 1, 0), 2);
        put(x, 1, 2, 3, 1);
        check.is("the other region has its own", parts(x, 1, 2, 3), "0 ");
        check.is("count", x.partIs(0, 1, 0), 2);
        x.drop(0, 1, 1);
        check.is("count", x.partIs(0, 0, 0), 0);
        check.is("count", x.partIs(0, 1, 0), 1);
        put(x, 0, 1, 1, 2);
        check.is("found again with the count 0", parts(x, 0, 1, 4), "0 ");
        x.drop(0, 1, 4);
        x.sweep(0, 1);
        put(x, 0, 1, 1, 2);
        check.is("a swept one comes anew", parts(x, 0, 1, 5), "3 ");
        put(x, 0, 1, 1);
        check.is("bytes 1 is not 1 0", parts(x, 0, 1, 6), "2 ");
        put(x, 0, 1, 1, 0);
        check.is("bytes 1 is not 1 0", parts(x, 0, 1, 7), "4 ");
    }

    private void full() {
        BlobHarbor x = new BlobHarbor();
        for (int i = 0; i < 40; i++) {
            put(x, 0, 1 + i % 4, 7, i % 3);
        }
        bytes(x, 1);
        check.refuses("put of the 41st", STATE, () -> x.put(0, 1, -1));
        check.refuses("put of the 41st", STATE, () -> x.put(0, 1, 37));
        check.is("put of the 41st, the condition not holding", x.put(0, 1, 36), 0);
        check.is("the draft stays", x.clear(), 1);
        check.refuses("delete with 40", STATE, () -> x.delete(0, 1));
        check.is("delete of none with 40", x.delete(0, 6), 0);
        check.is("the other region", put(x, 1, 1, 1), 41);
        x.drop(0, 1, 1);
        check.is("delete of the 40th", x.delete(0, 1), 42);
        check.is("delete of a mark with 40", x.delete(0, 1), 0);
        BlobHarbor y = new BlobHarbor();
        for (int b = 0; b < 88; b++) {
            put(y, 0, 1, b < 16 ? new int[] {b} : pair(b - 16));
            y.drop(0, 1, b + 1);
        }
        check.is("the last part", y.partIs(0, 87, 0), 0);
        bytes(y, 1, 1, 1, 1, 1, 1, 1, 1, 1, 2, 1, 1, 1, 1, 2);
        check.refuses("put of 3 new parts", STATE, () -> y.put(0, 1, -1));
        y.clear();
        bytes(y, 1, 1, 1, 1, 1, 1, 0, 0, 1, 1, 1, 1, 1, 1, 1, 1, 1, 2);
        check.is("put of 2 new parts, one of them twice", y.put(0, 1, -1), 89);
        check.is("its parts", parts(y, 0, 1, 89), "88 16 88 89 ");
        bytes(y, 1, 1, 1, 1);
        check.refuses("put of the 91st part", STATE, () -> y.put(0, 2, -1));
        y.clear();
        check.is("put of no new part", put(y, 0, 2, 9), 90);
        y.sweep(0, 99);
        bytes(y, 8);
        check.refuses("put of a swept part, the 91st", STATE, () -> y.put(0, 2, -1));
        check.is("a mark needs no part", y.delete(0, 2), 91);
    }

    /** Distinct parts of two bytes, and then some of three. */
    private static int[] pair(int number) {
        int left = number;
        for (int a = 0; a < 16; a++) {
            for (int b = 0; b < 16; b++) {
                if ((3 * a + b) % 5 == 0 && left-- == 0) {
                    return new int[] {a, b};
                }
            }
        }
        return left < 16 ? new int[] {1, 1, left} : new int[] {1, 0, left - 16};
    }

    private void delete() {
        BlobHarbor x = new BlobHarbor();
        check.refuses("delete", INDEX, () -> x.delete(2, 0));
        check.refuses("delete", INDEX, () -> x.delete(-1, 1));
        for (int key : NO_KEYS) {
            check.refuses("delete of the key " + key, ARGUMENT, () -> x.delete(1, key));
        }
        check.is("delete of none", x.delete(0, 1), 0);
        put(x, 0, 1, 1, 2);
        check.is("delete of another", x.delete(0, 6), 0);
        check.is("delete in the other region", x.delete(1, 1), 0);
        x.pass(3);
        for (int node = 0; node < 6; node++) {
            x.node(0, node, false);
        }
        check.is("delete needs no nodes", x.delete(0, 1), 2);
        check.is("delete of a mark", x.delete(0, 1), 0);
        check.is("it has no bytes", x.about(0, 1, 2, 0), 0);
        check.is("it has no parts", x.about(0, 1, 2, 1), 0);
        check.is("its class", x.about(0, 1, 2, 2), 0);
        check.is("its day", x.about(0, 1, 2, 3), 3);
        check.is("it is not locked", x.about(0, 1, 2, 4), -1);
        check.is("it is a mark", x.about(0, 1, 2, 5), 1);
        check.is("it is kept", x.behind(0), 2);
    }

    private void drop() {
        BlobHarbor x = new BlobHarbor();
        put(x, 0, 1, 1);
        put(x, 0, 2, 2);
        put(x, 0, 1, 3);
        check.refuses("drop", INDEX, () -> x.drop(2, 1, 1));
        check.refuses("drop of no key", INDEX, () -> x.drop(0, 5, 1));
        for (int version : new int[] {MIN, -1, 0, 2, 4, MAX}) {
            check.refuses("drop of the version " + version, INDEX, () -> x.drop(0, 1, version));
        }
        check.is("drop", x.drop(0, 1, 3), 1);
        check.is("the one ahead counts again", x.read(0, 1, 0, 0), 1);
        check.refuses("drop again", INDEX, () -> x.drop(0, 1, 3));
        x.lock(0, 1, 1, 0);
        check.refuses("drop with a lock until today", STATE, () -> x.drop(0, 1, 1));
        x.pass(1);
        check.is("drop, the day being over", x.drop(0, 1, 1), 0);
        check.is("no version", x.read(0, 1, 0, 0), -2);
        check.is("the other key", versions(x, 0, 2), "2 ");
        check.is("what is kept stays", x.behind(0), 3);
        check.is("a new version has a new number", put(x, 0, 1, 1), 4);
    }

    private void lock() {
        BlobHarbor x = new BlobHarbor();
        put(x, 0, 1, 1);
        x.delete(0, 1);
        check.refuses("lock", INDEX, () -> x.lock(-1, 1, 1, 1000));
        check.refuses("lock of no key", INDEX, () -> x.lock(0, 0, 1, 1));
        check.refuses("lock of no version", INDEX, () -> x.lock(0, 1, 3, 1000));
        check.refuses("lock of no version", INDEX, () -> x.lock(0, 1, 0, 1));
        for (int until : new int[] {MIN, -1, 1000, MAX}) {
            check.refuses("lock until " + until, ARGUMENT, () -> x.lock(0, 1, 1, until));
        }
        check.is("lock", x.lock(0, 1, 1, 0), -1);
        check.is("lock until the same", x.lock(0, 1, 1, 0), 0);
        check.is("lock until later", x.lock(0, 1, 1, 7), 0);
        check.refuses("lock until earlier", STATE, () -> x.lock(0, 1, 1, 6));
        check.is("about", x.about(0, 1, 1, 4), 7);
        x.pass(20);
        check.refuses("lock until earlier, that being over", STATE, () -> x.lock(0, 1, 1, 6));
        check.is("lock", x.lock(0, 1, 1, 999), 7);
        check.is("lock of a mark", x.lock(0, 1, 2, 20), -1);
        check.refuses("drop of a locked mark", STATE, () -> x.drop(0, 1, 2));
    }

    private void read() {
        BlobHarbor x = new BlobHarbor();
        put(x, 0, 1, 1, 2, 3, 4, 5);
        put(x, 0, 1, 9, 8);
        check.refuses("read", INDEX, () -> x.read(2, 1, 0, 0));
        for (int version : new int[] {MIN, -1, 3, MAX}) {
            check.refuses("read of the version " + version, INDEX, () -> x.read(0, 1, version, 0));
        }
        check.refuses("read", INDEX, () -> x.read(0, 1, 0, -1));
        check.refuses("read", INDEX, () -> x.read(0, 1, 0, MIN));
        check.refuses("read of no key with a version", INDEX, () -> x.read(0, 5, 1, 0));
        check.refuses("read of no key below 0", INDEX, () -> x.read(0, 5, 0, -1));
        for (int key : NO_KEYS) {
            check.refuses("read of the key " + key, ARGUMENT, () -> x.read(0, key, 0, 0));
        }
        check.is("the latest", read(x, 0, 1, 0), "9 8 -1");
        check.is("an older one", read(x, 0, 1, 1), "1 2 3 4 5 -1");
        check.is("far behind its end", x.read(0, 1, 1, MAX), -1);
        check.is("no version", x.read(0, 2, 0, 0), -2);
        check.is("no version", x.read(1, 1, 0, MAX), -2);
        x.delete(0, 1);
        check.is("a mark", x.read(0, 1, 0, 0), -2);
        check.is("a mark", x.read(0, 1, 3, 0), -2);
        check.is("ahead of a mark", read(x, 0, 1, 2), "9 8 -1");
    }

    private void readOrder() {
        BlobHarbor x = new BlobHarbor();
        put(x, 0, 1, 1, 2, 7, 7);
        x.delete(0, 1);
        x.rule(0, 1, 2);
        x.pass(1);
        check.is("a mark is never cold", x.read(0, 1, 0, 0), -2);
        check.is("cold ahead of the end", x.read(0, 1, 1, 99), -3);
        for (int node = 1; node < 6; node++) {
            x.node(0, node, false);
        }
        check.is("cold ahead of lost", x.read(0, 1, 1, 0), -3);
        x.ask(0, 1, 1);
        x.pass(2);
        check.is("none ahead of lost", x.read(0, 1, 1, 4), -1);
        check.is("lost", x.read(0, 1, 1, 0), -4);
        check.is("a mark is never lost", x.read(0, 1, 0, 0), -2);
        BlobHarbor y = new BlobHarbor();
        put(y, 0, 1, 1, 2, 1, 7);
        y.rot(0, 0, 0);
        y.rot(0, 0, 4);
        y.rot(0, 0, 2);
        check.is("only one part is lost", y.read(0, 1, 0, 1), -4);
        check.is("only one part is lost", y.read(0, 1, 0, 2), 1);
        check.is("only one part is lost", y.read(0, 1, 0, 3), 7);
    }

    private void ask() {
        BlobHarbor x = new BlobHarbor();
        put(x, 0, 1, 4);
        x.delete(0, 1);
        put(x, 0, 2, 5);
        check.refuses("ask", INDEX, () -> x.ask(2, 1, 1));
        check.refuses("ask of the latest", INDEX, () -> x.ask(0, 1, 0));
        check.refuses("ask of no key", INDEX, () -> x.ask(0, 5, 1));
        check.refuses("ask, not being cold", STATE, () -> x.ask(0, 1, 1));
        x.rule(0, 1, 1);
        x.pass(1);
        check.refuses("ask of the class 1", STATE, () -> x.ask(0, 1, 1));
        check.is("the class 1 can be read", x.read(0, 1, 1, 0), 4);
        x.rule(1, 2, 2);
        x.pass(1);
        check.refuses("ask of a mark", STATE, () -> x.ask(0, 1, 2));
        check.refuses("ask of another key", STATE, () -> x.ask(0, 2, 3));
        check.is("ask", x.ask(0, 1, 1), 4);
        int[] due = {-3, -3, 4, 4, 4};
        for (int day = 2; day < 7; day++) {
            check.is("read on the day " + day, x.read(0, 1, 1, 0), due[day - 2]);
            check.refuses("ask on the day " + day, STATE, () -> x.ask(0, 1, 1));
            x.pass(1);
        }
        check.is("read when it is over", x.read(0, 1, 1, 0), -3);
        check.is("ask anew", x.ask(0, 1, 1), 9);
        x.pass(30);
        check.is("ask anew much later", x.ask(0, 1, 1), 39);
    }

    private void uploads() {
        BlobHarbor x = new BlobHarbor();
        check.refuses("piece", INDEX, () -> x.piece(0, 0));
        check.refuses("finish", INDEX, () -> x.finish(0, true));
        check.refuses("upload", INDEX, () -> x.upload(2, 0));
        for (int key : NO_KEYS) {
            check.refuses("upload of the key " + key, ARGUMENT, () -> x.upload(0, key));
        }
        for (int i = 0; i < 12; i++) {
            check.is("upload", x.upload(i % 2, 1), i);
        }
        check.refuses("upload of the 13th", STATE, () -> x.upload(0, 1));
        check.refuses("upload of the 13th, no key", ARGUMENT, () -> x.upload(0, 5));
        check.refuses("piece of none", INDEX, () -> x.piece(-1, 0));
        check.refuses("piece of none", INDEX, () -> x.piece(12, 1));
        check.refuses("piece of none", INDEX, () -> x.piece(MAX, 1));
        check.refuses("piece without bytes", STATE, () -> x.piece(0, 1));
        for (int number : new int[] {MIN, 0, 10, MAX}) {
            check.refuses("piece " + number, ARGUMENT, () -> x.piece(0, number));
        }
        check.refuses("finish without pieces", STATE, () -> x.finish(0, false));
        bytes(x, 4, 5);
        check.is("piece", x.piece(0, 9), 2);
        check.is("the draft is empty", x.clear(), 0);
        bytes(x, 1, 2, 3);
        check.is("piece", x.piece(0, 1), 5);
        bytes(x, 6);
        check.is("piece in place of one", x.piece(0, 9), 4);
        x.draft(0, 1, 37);
        check.refuses("more than 40", STATE, () -> x.piece(0, 2));
        check.is("40 in place of one", x.piece(0, 1), 38);
        x.draft(0, 0, 2);
        check.is("up to 40", x.piece(0, 5), 40);
        bytes(x, 0);
        check.refuses("41", STATE, () -> x.piece(0, 4));
        check.is("the draft stays", x.piece(0, 1), 4);
        check.is("finish", x.finish(0, false), 1);
        check.is("by rising numbers", read(x, 0, 1, 1), "0 0 0 6 -1");
        check.is("it is kept", x.behind(0), 1);
        check.refuses("finish again", INDEX, () -> x.finish(0, true));
        check.refuses("piece when over", INDEX, () -> x.piece(0, 0));
        bytes(x, 3);
        x.piece(1, 3);
        check.is("given up", x.finish(1, true), 0);
        check.is("given up", versions(x, 1, 1), "");
        check.refuses("finish when given up", INDEX, () -> x.finish(1, false));
        bytes(x, 3);
        x.piece(3, 3);
        x.pass(2);
        check.is("finish in the other region", x.finish(3, false), 2);
        check.is("its day", x.about(1, 1, 2, 3), 2);
        check.is("given up without pieces", x.finish(4, true), 0);
        check.refuses("upload of the 13th still", STATE, () -> x.upload(0, 1));
    }

    private void uploadFull() {
        BlobHarbor x = new BlobHarbor();
        x.upload(0, 1);
        bytes(x, 1, 2);
        x.piece(0, 1);
        for (int node = 0; node < 4; node++) {
            x.node(0, node, false);
        }
        bytes(x, 9);
        check.refuses("finish with 2 nodes", STATE, () -> x.finish(0, false));
        check.is("the draft stays", x.clear(), 1);
        x.node(0, 1, true);
        check.is("finish with 3 nodes", x.finish(0, false), 1);
        check.is("three shards", x.partIs(0, 0, 2), 3);
        check.is("read", read(x, 0, 1, 0), "1 2 -1");
    }

    private void list() {
        BlobHarbor x = new BlobHarbor();
        int[] order = {1, 6, 31, 32, 7, 36, 4, 24, 124};
        for (int i : new int[] {4, 0, 8, 2, 7, 1, 5, 3, 6}) {
            put(x, 0, order[i], i);
        }
        for (int i = 0; i < order.length; i++) {
            check.is("list all", x.list(0, 0, 0, i), order[i]);
            check.is("list behind", x.list(0, 0, order[i], 0), i == 8 ? 0 : order[i + 1]);
        }
        check.is("list beyond", x.list(0, 0, 0, 9), 0);
        check.is("list beyond", x.list(0, 0, 0, MAX), 0);
        check.is("beginning a", x.list(0, 1, 0, 5), 36);
        check.is("beginning a", x.list(0, 1, 0, 6), 0);
        check.is("beginning aa", x.list(0, 6, 0, 0), 6);
        check.is("beginning aa", x.list(0, 6, 0, 2), 32);
        check.is("beginning aa", x.list(0, 6, 0, 3), 0);
        check.is("beginning aab", x.list(0, 32, 0, 0), 32);
        check.is("beginning aab", x.list(0, 32, 0, 1), 0);
        check.is("beginning b", x.list(0, 2, 0, 0), 0);
        check.is("beginning d", x.list(0, 4, 0, 2), 124);
        check.is("behind a key that is not there", x.list(0, 0, 33, 0), 7);
        check.is("behind b", x.list(0, 0, 2, 0), 4);
        check.is("beginning a behind aab", x.list(0, 1, 32, 1), 36);
        check.is("beginning aa behind ab", x.list(0, 6, 7, 0), 0);
        check.is("behind ddd", x.list(0, 0, 124, 0), 0);
        check.is("the other region", x.list(1, 0, 0, 0), 0);
        x.delete(0, 31);
        check.is("not a mark", x.list(0, 6, 0, 1), 32);
        x.drop(0, 31, x.version(0, 31, 1));
        check.is("again", x.list(0, 6, 0, 1), 31);
        check.refuses("list", INDEX, () -> x.list(2, 5, 5, 0));
        check.refuses("list", INDEX, () -> x.list(0, 5, 5, -1));
        for (int key : NO_KEYS) {
            if (key != 0) {
                check.refuses("list of the beginning " + key, ARGUMENT, () -> x.list(0, key, 0, 0));
                check.refuses("list behind " + key, ARGUMENT, () -> x.list(0, 0, key, 0));
            }
        }
    }

    private void version() {
        BlobHarbor x = new BlobHarbor();
        put(x, 0, 1, 1);
        put(x, 0, 2, 1);
        x.delete(0, 1);
        put(x, 0, 1, 1);
        int[] due = {1, 3, 4, 0, 0};
        for (int place = 0; place < 5; place++) {
            check.is("version", x.version(0, 1, place), due[place]);
        }
        check.is("version", x.version(0, 1, MAX), 0);
        check.is("version of none", x.version(0, 3, 0), 0);
        check.is("version of the other region", x.version(1, 1, 0), 0);
        x.drop(0, 1, 3);
        check.is("version", x.version(0, 1, 1), 4);
        check.refuses("version", INDEX, () -> x.version(2, 5, 0));
        check.refuses("version", INDEX, () -> x.version(0, 5, -1));
        for (int key : NO_KEYS) {
            check.refuses("version of the key " + key, ARGUMENT, () -> x.version(0, key, 0));
        }
    }

    private void about() {
        BlobHarbor x = new BlobHarbor();
        x.pass(4);
        put(x, 1, 1, 1, 2, 3, 4, 5);
        x.lock(1, 1, 1, 12);
        x.rule(1, 0, 1);
        x.pass(1);
        int[] due = {5, 2, 1, 4, 12, 0};
        for (int what = 0; what < 6; what++) {
            check.is("about " + what, x.about(1, 1, 1, what), due[what]);
        }
        for (int what : new int[] {MIN, -1, 6, MAX}) {
            check.refuses("about " + what, ARGUMENT, () -> x.about(1, 1, 1, what));
        }
        check.refuses("about", INDEX, () -> x.about(2, 1, 1, 6));
        check.refuses("about", INDEX, () -> x.about(1, 1, 0, 6));
        check.refuses("about", INDEX, () -> x.about(0, 1, 1, 0));
        check.refuses("about", INDEX, () -> x.about(1, 5, 1, 0));
    }

    private void part() {
        BlobHarbor x = new BlobHarbor();
        put(x, 0, 1, 1, 2, 3, 1, 1, 2, 9);
        x.delete(0, 1);
        int[] due = {0, 1, 0, 2, -1, -1};
        for (int place = 0; place < 6; place++) {
            check.is("part " + place, x.part(0, 1, 1, place), due[place]);
        }
        check.is("part", x.part(0, 1, 1, MAX), -1);
        check.is("part of a mark", x.part(0, 1, 2, 0), -1);
        check.refuses("part", INDEX, () -> x.part(2, 1, 1, 0));
        check.refuses("part", INDEX, () -> x.part(0, 1, 0, 0));
        check.refuses("part", INDEX, () -> x.part(0, 1, 3, 0));
        check.refuses("part", INDEX, () -> x.part(0, 0, 1, 0));
        check.refuses("part", INDEX, () -> x.part(0, 1, 1, -1));
        check.refuses("part", INDEX, () -> x.part(0, 1, 1, MIN));
    }

    private void partIs() {
        BlobHarbor x = new BlobHarbor();
        put(x, 0, 1, 1, 2, 3, 4, 5);
        put(x, 0, 1, 1, 2);
        x.node(0, 5, false);
        x.rot(0, 0, 1);
        int[] due = {2, 2, 3, 2, 4, 1, 3, -1};
        for (int what = 0; what < 8; what++) {
            check.is("partIs " + what, x.partIs(0, 0, what), due[what]);
        }
        for (int what : new int[] {MIN, -1, 8, MAX}) {
            check.refuses("partIs " + what, ARGUMENT, () -> x.partIs(0, 0, what));
        }
        check.is("how many bytes", x.partIs(0, 1, 1), 3);
        for (int part : new int[] {MIN, -1, 2, 90, MAX}) {
            check.refuses("partIs of " + part, INDEX, () -> x.partIs(0, part, 8));
        }
        check.refuses("partIs", INDEX, () -> x.partIs(2, 0, 0));
        check.refuses("partIs", INDEX, () -> x.partIs(1, 0, 0));
        x.drop(0, 1, 1);
        x.drop(0, 1, 2);
        check.is("count", x.partIs(0, 0, 0), 0);
        x.sweep(0, 1);
        check.refuses("partIs of a swept one", INDEX, () -> x.partIs(0, 0, 0));
        check.is("the next one", x.partIs(0, 1, 0), 0);
    }

    private void orderOfNodes() {
        BlobHarbor x = new BlobHarbor();
        for (int b = 0; b < 16; b++) {
            put(x, 0, 1, b);
        }
        put(x, 0, 1, 0, 0);
        check.is("the part 0", nodes(x, 0, 0), "2 4 1 3 5 ");
        check.is("the part 1", nodes(x, 0, 1), "3 1 4 2 0 ");
        check.is("the part 2", nodes(x, 0, 2), "2 3 0 4 1 ");
        check.is("the part 16, all being the same", nodes(x, 0, 16), "0 1 2 3 4 ");
        BlobHarbor y = new BlobHarbor();
        y.node(0, 4, false);
        y.node(0, 3, false);
        put(y, 0, 1, 0);
        check.is("with four nodes", nodes(y, 0, 0), "2 1 5 0 -1 ");
        y.node(0, 2, false);
        put(y, 0, 1, 1);
        check.is("with three nodes", nodes(y, 0, 1), "1 0 5 -1 -1 ");
        y.node(0, 5, false);
        bytes(y, 2);
        check.refuses("with two nodes", STATE, () -> y.put(0, 1, -1));
        y.clear();
        bytes(y, 0);
        check.refuses("with two nodes, no part being new", STATE, () -> y.put(0, 1, -1));
        check.is("in the other region", y.put(1, 1, -1), 3);
        y.node(0, 5, true);
        bytes(y, 2);
        check.is("with three nodes", y.put(0, 1, -1), 4);
    }

    private void node() {
        BlobHarbor x = new BlobHarbor();
        put(x, 0, 1, 0);
        put(x, 0, 1, 1);
        put(x, 1, 1, 1);
        check.refuses("node", INDEX, () -> x.node(2, 0, false));
        for (int node : new int[] {MIN, -1, 6, MAX}) {
            check.refuses("node " + node, INDEX, () -> x.node(0, node, true));
        }
        check.refuses("node", STATE, () -> x.node(0, 2, true));
        x.rot(0, 0, 0);
        x.drop(0, 1, 2);
        check.is("node 2, a rotten shard and one with the count 0", x.node(0, 2, false), 2);
        check.refuses("node", STATE, () -> x.node(0, 2, false));
        check.is("the part 0", nodes(x, 0, 0), "-1 4 1 3 5 ");
        check.is("the other region", nodes(x, 1, 0), "2 4 1 3 5 ");
        check.is("it comes back", x.node(0, 2, true), 0);
        check.is("empty", nodes(x, 0, 0), "-1 4 1 3 5 ");
        check.is("empty", x.node(0, 2, false), 0);
        check.is("node 0", x.node(0, 0, false), 1);
        x.sweep(0, 1);
        check.is("a swept part has no shards", x.node(0, 1, false), 1);
    }

    private void rot() {
        BlobHarbor x = new BlobHarbor();
        put(x, 0, 1, 4);
        check.refuses("rot", INDEX, () -> x.rot(2, 0, 0));
        check.refuses("rot", INDEX, () -> x.rot(0, 1, 5));
        check.refuses("rot", INDEX, () -> x.rot(0, -1, 5));
        for (int shard : new int[] {MIN, -1, 5, MAX}) {
            check.refuses("rot", ARGUMENT, () -> x.rot(0, 0, shard));
        }
        check.is("rot", x.rot(0, 0, 2), true);
        check.is("rot again", x.rot(0, 0, 2), false);
        check.is("it is there, but not good", x.partIs(0, 0, 2), 4);
        check.is("its node", x.partIs(0, 0, 5), 1);
        x.node(0, 4, false);
        check.is("rot of what is not there", x.rot(0, 0, 1), false);
        x.node(0, 4, true);
        x.mend(0, 99);
        check.is("mended", x.partIs(0, 0, 2), 5);
        check.is("rot of a mended one", x.rot(0, 0, 1), true);
        check.is("rot of a mended one", x.rot(0, 0, 2), true);
    }

    private void anyThreeShards() {
        int[][] objects = {{1, 1, 1, 1, 1, 1}, {15, 1, 8, 13, 4, 9}, {3, 7, 11, 13, 2, 6}, {7, 15, 14, 5}, {9}};
        for (int[] object : objects) {
            BlobHarbor x = new BlobHarbor();
            put(x, 0, 1, object);
            String due = read(x, 0, 1, 1);
            for (int one = 0; one < 5; one++) {
                for (int other = 0; other < one; other++) {
                    for (int part = 0; part < x.about(0, 1, 1, 1); part++) {
                        x.rot(0, part, one);
                        x.rot(0, part, other);
                    }
                    check.is("without " + one + " and " + other, read(x, 0, 1, 1), due);
                    check.is("agrees", x.agrees(0), true);
                    check.is("mend", x.mend(0, 99), 2L * x.about(0, 1, 1, 1));
                    check.is("after mending", read(x, 0, 1, 1), due);
                }
            }
            for (int round = 0; round < 30; round++) {
                x.rot(0, 0, round % 5);
                x.rot(0, 0, (round * 3 + 1) % 5);
                x.mend(0, 99);
            }
            check.is("after many mendings", read(x, 0, 1, 1), due);
        }
    }

    private void mend() {
        BlobHarbor x = new BlobHarbor();
        check.refuses("mend", INDEX, () -> x.mend(2, 0));
        for (int most : new int[] {MIN, 0, 100, MAX}) {
            check.refuses("mend", ARGUMENT, () -> x.mend(0, most));
        }
        put(x, 0, 1, 0);
        check.is("nothing to mend", x.mend(0, 99), 0);
        x.node(0, 2, false);
        x.rot(0, 0, 2);
        check.is("mend the lowest one first", x.mend(0, 1), 1);
        check.is("onto the first free node", nodes(x, 0, 0), "0 4 1 3 5 ");
        check.is("the rotten one is not yet good", x.partIs(0, 0, 2), 4);
        check.is("mend in place", x.mend(0, 99), 1);
        check.is("mend in place", nodes(x, 0, 0), "0 4 1 3 5 ");
        check.is("all good", x.partIs(0, 0, 2), 5);
        x.node(0, 3, false);
        x.rot(0, 0, 4);
        check.is("without a node the next shard", x.mend(0, 99), 1);
        check.is("its node", nodes(x, 0, 0), "0 4 1 -1 5 ");
        check.is("all but one", x.partIs(0, 0, 2), 4);
        x.node(0, 3, true);
        x.node(0, 2, true);
        check.is("mend", x.mend(0, 99), 1);
        check.is("the first one in its order", nodes(x, 0, 0), "0 4 1 2 5 ");
        x.rot(0, 0, 0);
        x.rot(0, 0, 1);
        x.rot(0, 0, 2);
        check.is("what cannot be read is not mended", x.mend(0, 99), 0);
    }

    private void mendByRank() {
        BlobHarbor x = new BlobHarbor();
        put(x, 0, 1, 0);
        put(x, 0, 1, 1);
        put(x, 0, 1, 2);
        put(x, 0, 1, 3);
        x.drop(0, 1, 4);
        x.rot(0, 0, 4);
        for (int part : new int[] {1, 2, 3}) {
            x.rot(0, part, 0);
            x.rot(0, part, 3);
        }
        x.rot(0, 1, 1);
        int[][] due = {{4, 2, 4, 3}, {4, 2, 4, 4}, {5, 2, 4, 4}, {5, 2, 5, 4}, {5, 2, 5, 5}};
        for (int[] good : due) {
            check.is("mend", x.mend(0, 1), 1);
            for (int part = 0; part < 4; part++) {
                check.is("the part " + part, x.partIs(0, part, 2), good[part]);
            }
        }
        check.is("mend", x.mend(0, 1), 0);
        BlobHarbor y = new BlobHarbor();
        put(y, 0, 1, 0);
        y.rot(0, 0, 1);
        y.drop(0, 1, 1);
        y.sweep(0, 9);
        check.is("a swept part is not mended", y.mend(0, 9), 0);
        for (int b = 0; b < 16; b++) {
            put(y, 0, 1, b);
        }
        for (int part = 1; part < 17; part++) {
            y.rot(0, part, part % 5);
            y.rot(0, part, (part + 1) % 5);
        }
        check.is("as many as most", y.mend(0, 20), 20);
        check.is("the others", y.mend(0, 20), 12);
    }

    private void comesAnew() {
        BlobHarbor x = new BlobHarbor();
        put(x, 0, 1, 1, 2);
        x.rot(0, 0, 0);
        x.rot(0, 0, 1);
        put(x, 0, 2, 1, 2);
        check.is("it stays as it is, if it can be read", x.partIs(0, 0, 2), 3);
        x.rot(0, 0, 2);
        x.node(0, 2, false);
        check.is("lost", x.read(0, 1, 0, 0), -4);
        check.is("agrees", x.agrees(0), true);
        check.is("put", put(x, 0, 2, 1, 2), 3);
        check.is("its number", parts(x, 0, 2, 3), "0 ");
        check.is("its nodes", nodes(x, 0, 0), "4 1 3 5 0 ");
        check.is("all good", x.partIs(0, 0, 2), 5);
        check.is("its count", x.partIs(0, 0, 0), 3);
        check.is("the older one has it again", read(x, 0, 1, 0), "1 2 -1");
        x.drop(0, 1, 1);
        x.drop(0, 2, 2);
        x.drop(0, 2, 3);
        for (int node = 1; node < 4; node += 2) {
            x.node(0, node, false);
        }
        check.is("three are left", x.partIs(0, 0, 2), 3);
        x.rot(0, 0, 0);
        put(x, 0, 2, 1, 2);
        check.is("with the count 0 too", nodes(x, 0, 0), "4 5 0 -1 -1 ");
        check.is("its count", x.partIs(0, 0, 0), 1);
        BlobHarbor y = new BlobHarbor();
        put(y, 0, 1, 1, 2);
        y.follow(0, 1);
        for (int shard = 0; shard < 3; shard++) {
            y.rot(1, 0, shard);
        }
        put(y, 0, 2, 1, 2);
        y.follow(0, 1);
        check.is("by following too", y.partIs(1, 0, 2), 5);
    }

    private void sweep() {
        BlobHarbor x = new BlobHarbor();
        check.refuses("sweep", INDEX, () -> x.sweep(2, 0));
        for (int most : new int[] {MIN, 0, 100, MAX}) {
            check.refuses("sweep", ARGUMENT, () -> x.sweep(0, most));
        }
        for (int b = 0; b < 6; b++) {
            put(x, 0, 1, b);
        }
        put(x, 0, 1, 3);
        for (int version = 1; version < 7; version++) {
            x.drop(0, 1, version);
        }
        check.is("sweep", x.sweep(0, 2), 2);
        check.refuses("swept", INDEX, () -> x.partIs(0, 1, 0));
        check.is("not yet swept", x.partIs(0, 2, 0), 0);
        check.is("sweep", x.sweep(0, 99), 3);
        check.is("sweep", x.sweep(0, 99), 0);
        check.is("still there", x.partIs(0, 3, 0), 1);
        check.is("read", x.read(0, 1, 0, 0), 3);
        check.refuses("swept", INDEX, () -> x.partIs(0, 5, 0));
        check.refuses("swept", INDEX, () -> x.rot(0, 5, 0));
        put(x, 0, 1, 0);
        check.is("it has a new number", parts(x, 0, 1, 8), "6 ");
        check.is("agrees", x.agrees(0), true);
    }

    private void rules() {
        BlobHarbor x = new BlobHarbor();
        for (int key : NO_KEYS) {
            if (key != 0) {
                check.refuses("rule of " + key, ARGUMENT, () -> x.rule(key, 1, 1));
            }
        }
        int[][] wrong = {{-1, 1}, {100, 1}, {1, 0}, {1, 4}, {MIN, 1}, {1, MAX}};
        for (int[] w : wrong) {
            check.refuses("rule", ARGUMENT, () -> x.rule(0, w[0], w[1]));
        }
        put(x, 0, 1, 1);
        put(x, 1, 6, 1);
        put(x, 0, 31, 1);
        put(x, 0, 2, 1);
        check.is("rule", x.rule(6, 2, 2), 1);
        check.is("rule", x.rule(0, 3, 1), 2);
        check.is("rule", x.rule(2, 0, 1), 3);
        check.is("rules begin with a day", x.about(0, 2, 4, 2), 0);
        x.pass(1);
        check.is("the key b", x.about(0, 2, 4, 2), 1);
        x.pass(1);
        check.is("the key a", x.about(0, 1, 1, 2), 0);
        check.is("the key aa, in the other region", x.about(1, 6, 2, 2), 2);
        check.is("the key aaa", x.about(0, 31, 3, 2), 2);
        x.pass(1);
        check.is("the key a", x.about(0, 1, 1, 2), 1);
        check.is("the class does not fall", x.about(0, 31, 3, 2), 2);
        put(x, 0, 1, 1);
        x.pass(2);
        check.is("a younger one", x.about(0, 1, 5, 2), 0);
        check.is("rule", x.rule(1, 99, 3), 4);
        check.is("rule", x.rule(124, 99, 3), 5);
        check.is("rule", x.rule(0, 0, 2), 6);
        check.refuses("a rule more", STATE, () -> x.rule(0, 0, 2));
        check.refuses("a wrong rule more", ARGUMENT, () -> x.rule(5, 0, 2));
    }

    private void ruleDrops() {
        BlobHarbor x = new BlobHarbor();
        put(x, 0, 1, 1);
        put(x, 0, 1, 2);
        x.delete(0, 1);
        put(x, 0, 1, 3);
        put(x, 0, 2, 4);
        put(x, 0, 2, 4);
        x.delete(0, 2);
        x.pass(1);
        put(x, 0, 1, 4);
        put(x, 0, 1, 5);
        x.lock(0, 1, 2, 2);
        x.rule(1, 1, 3);
        x.pass(1);
        check.is("not the latest, not locked", versions(x, 0, 1), "2 9 ");
        check.is("another key", versions(x, 0, 2), "5 6 7 ");
        check.is("count", x.partIs(0, 0, 0), 0);
        check.is("agrees", x.agrees(0), true);
        x.pass(1);
        check.is("the lock is over", versions(x, 0, 1), "9 ");
        x.rule(2, 3, 3);
        x.delete(0, 1);
        x.pass(1);
        check.is("a mark as the latest one stays", versions(x, 0, 2), "7 ");
        check.is("ahead of a mark", versions(x, 0, 1), "10 ");
        BlobHarbor y = new BlobHarbor();
        y.rule(0, 2, 3);
        put(y, 0, 1, 1);
        y.pass(1);
        put(y, 0, 1, 2);
        check.is("too young", versions(y, 0, 1), "1 2 ");
        y.pass(1);
        check.is("old enough", versions(y, 0, 1), "2 ");
    }

    private void passAndCost() {
        BlobHarbor x = new BlobHarbor();
        for (int days : new int[] {MIN, -1, 0, 31, MAX}) {
            check.refuses("pass", ARGUMENT, () -> x.pass(days));
        }
        for (int of : new int[] {MIN, -1, 3, MAX}) {
            check.refuses("cost", ARGUMENT, () -> x.cost(of));
        }
        put(x, 0, 1, 1, 2, 3);
        put(x, 0, 1, 1, 2);
        x.delete(0, 1);
        put(x, 1, 1, 7, 7, 7, 7, 7);
        x.rule(0, 2, 1);
        x.rule(0, 3, 2);
        check.is("pass", x.pass(1), 1);
        check.is("cost", x.cost(0), 40);
        check.is("the day ends ahead of the rules", x.pass(1), 2);
        check.is("cost", x.cost(0), 80);
        check.is("cost", x.cost(1), 0);
        check.is("pass", x.pass(2), 4);
        check.is("cost", x.cost(1), 20);
        check.is("cost", x.cost(2), 10);
        check.is("pass", x.pass(30), 34);
        check.is("cost", x.cost(2), 310);
        check.is("cost", x.cost(0), 80);
        x.drop(0, 1, 1);
        x.pass(1);
        check.is("cost", x.cost(2), 317);
    }

    private void follow() {
        BlobHarbor x = new BlobHarbor();
        check.refuses("follow", INDEX, () -> x.follow(2, 0));
        check.refuses("follow", INDEX, () -> x.follow(-1, 0));
        check.refuses("behind", INDEX, () -> x.behind(-1));
        check.refuses("behind", INDEX, () -> x.behind(2));
        for (int most : new int[] {MIN, 0, 100, MAX}) {
            check.refuses("follow", ARGUMENT, () -> x.follow(0, most));
        }
        check.is("nothing to follow", x.follow(0, 99), 0);
        put(x, 0, 1, 1, 2);
        x.lock(0, 1, 1, 9);
        x.rule(0, 3, 2);
        x.pass(3);
        put(x, 1, 1, 5);
        put(x, 0, 1, 3);
        x.delete(0, 1);
        check.is("behind", x.behind(0), 3);
        check.is("behind", x.behind(1), 1);
        check.is("follow", x.follow(0, 1), 1);
        check.is("by its number", versions(x, 1, 1), "1 2 ");
        check.is("its day", x.about(1, 1, 1, 3), 0);
        check.is("its class", x.about(1, 1, 1, 2), 0);
        check.is("its lock", x.about(1, 1, 1, 4), -1);
        check.is("its bytes", read(x, 1, 1, 1), "1 2 -1");
        check.is("the latest one stays", read(x, 1, 1, 0), "5 -1");
        check.is("what has followed is not kept again", x.behind(1), 1);
        x.drop(0, 1, 3);
        check.is("follow", x.follow(0, 99), 2);
        check.is("one that was dropped follows", versions(x, 1, 1), "1 2 3 4 ");
        check.is("behind", x.behind(0), 0);
        check.is("drops do not follow", x.follow(0, 99), 0);
        check.is("follow", x.follow(1, 99), 1);
        check.is("in the order of numbers", versions(x, 0, 1), "1 2 4 ");
        check.is("no more", x.behind(1), 0);
    }

    private void followStays() {
        BlobHarbor x = new BlobHarbor();
        for (int node = 0; node < 4; node++) {
            x.node(1, node, false);
        }
        put(x, 0, 1, 1);
        x.delete(0, 1);
        check.is("with two nodes", x.follow(0, 99), 0);
        check.is("behind", x.behind(0), 2);
        x.node(1, 0, true);
        check.is("with three nodes", x.follow(0, 99), 2);
        BlobHarbor y = new BlobHarbor();
        for (int i = 0; i < 40; i++) {
            put(y, 1, 1, 1);
        }
        put(y, 0, 2, 1);
        check.is("with 40 versions", y.follow(0, 99), 0);
        y.drop(1, 1, 1);
        check.is("with 39 versions", y.follow(0, 99), 1);
        y.delete(0, 2);
        check.is("a mark with 40 versions", y.follow(0, 99), 0);
        check.is("behind", y.behind(0), 1);
        BlobHarbor z = new BlobHarbor();
        for (int b = 0; b < 89; b++) {
            put(z, 1, 1, b < 16 ? new int[] {b} : pair(b - 16));
            z.drop(1, 1, b + 1);
        }
        put(z, 1, 3, 1, 1, 1, 1);
        put(z, 0, 2, 15, 14, 0);
        check.is("with 90 parts", z.follow(0, 99), 0);
        check.is("behind", z.behind(0), 1);
        check.is("the other way it can", z.follow(1, 99), 39);
    }

    private void followMarks() {
        BlobHarbor x = new BlobHarbor();
        put(x, 0, 1, 1);
        x.delete(0, 1);
        x.follow(0, 1);
        for (int node = 0; node < 6; node++) {
            x.node(1, node, false);
        }
        check.is("a mark needs no nodes", x.follow(0, 1), 1);
        check.is("a mark", x.about(1, 1, 2, 5), 1);
        check.is("gone", x.read(1, 1, 0, 0), -2);
        put(x, 0, 2, 1);
        x.delete(0, 2);
        check.is("an object holds what is behind it", x.follow(0, 9), 0);
        check.is("behind", x.behind(0), 2);
    }

    private void areAlike() {
        BlobHarbor x = new BlobHarbor();
        put(x, 0, 1, 1, 2);
        check.is("areAlike", x.areAlike(), false);
        put(x, 1, 1, 1, 2);
        check.is("the same bytes, another number", x.areAlike(), true);
        put(x, 1, 1, 1, 3);
        check.is("another last byte", x.areAlike(), false);
        put(x, 1, 1, 2, 2);
        check.is("another first byte", x.areAlike(), false);
        put(x, 1, 1, 1);
        check.is("fewer bytes", x.areAlike(), false);
        x.delete(1, 1);
        check.is("a mark", x.areAlike(), false);
        x.delete(0, 1);
        check.is("two marks", x.areAlike(), true);
        put(x, 0, 6, 1);
        x.delete(0, 6);
        check.is("a mark and none", x.areAlike(), true);
        put(x, 0, 124, 1);
        check.is("areAlike", x.areAlike(), false);
        put(x, 1, 124, 1);
        for (int node = 0; node < 6; node++) {
            x.node(1, node, false);
        }
        check.is("found plainly, though lost", x.areAlike(), true);
        x.rule(0, 0, 2);
        x.pass(1);
        check.is("found plainly, though cold", x.areAlike(), true);
        put(x, 0, 124, 2);
        x.drop(0, 124, x.version(0, 124, 1));
        check.is("the latest one counts", x.areAlike(), true);
    }

    private void agrees() {
        BlobHarbor x = new BlobHarbor();
        for (int region : new int[] {MIN, -1, 2, MAX}) {
            check.refuses("agrees", INDEX, () -> x.agrees(region));
        }
        put(x, 0, 1, 15, 9, 3, 3, 3, 7, 8, 1, 2);
        put(x, 0, 1, 1, 2, 1, 2);
        x.rot(0, 0, 0);
        x.rot(0, 0, 1);
        x.node(0, 4, false);
        check.is("agrees", x.agrees(0), true);
        x.rule(0, 0, 2);
        x.pass(1);
        check.is("agrees when cold", x.agrees(0), true);
        x.drop(0, 1, 1);
        check.is("agrees", x.agrees(0), true);
        x.sweep(0, 99);
        check.is("agrees", x.agrees(0), true);
        x.follow(0, 99);
        check.is("agrees", x.agrees(1), true);
    }

    private void letter() {
        BlobHarbor x = new BlobHarbor();
        int[] keys = {1, 4, 6, 24, 31, 124, 38, 2};
        String[] due = {"a  ", "d  ", "aa ", "dd ", "aaa", "ddd", "abc", "b  "};
        for (int i = 0; i < keys.length; i++) {
            String got = "" + x.letter(keys[i], 0) + x.letter(keys[i], 1) + x.letter(keys[i], 2);
            check.is("the key " + keys[i], got, due[i]);
            check.is("behind the end", x.letter(keys[i], 3), ' ');
            check.is("behind the end", x.letter(keys[i], MAX), ' ');
            int key = keys[i];
            check.refuses("letter", INDEX, () -> x.letter(key, -1));
            check.refuses("letter", INDEX, () -> x.letter(key, MIN));
        }
        for (int key : NO_KEYS) {
            check.refuses("letter of the key " + key, ARGUMENT, () -> x.letter(key, 0));
            check.refuses("letter of the key " + key, ARGUMENT, () -> x.letter(key, -1));
        }
    }
}
