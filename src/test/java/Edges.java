import java.util.ArrayList;
import java.util.Arrays;
import java.util.List;

/** Tests of what sentences of the document say at their edges, each on a harbour of its own. */
abstract class Edges {
    static final Class<?> INDEX = IndexOutOfBoundsException.class;
    static final Class<?> ARGUMENT = IllegalArgumentException.class;
    static final Class<?> STATE = IllegalStateException.class;
    static final int MIN = Integer.MIN_VALUE;
    static final int MAX = Integer.MAX_VALUE;
    static final int A = 1;
    static final int B = 2;
    static final int C = 3;
    static final int D = 4;
    static final int AA = 6;
    static final int AB = 7;
    static final int AAA = 31;
    static final int AAB = 32;
    static final int DDD = 124;
    static final int[] ONE = {1};
    static final int[] SOME_NOT_KEYS = {MIN, -1, 0, 5, 25, 26, 29, 30, 120, 125, 126, MAX};
    static final int[] NOT_REGIONS = {MIN, -1, 2, MAX};

    /** What a sentence says, tried on a new harbour. */
    interface Trial {
        void on(Harbour h);
    }

    private final Check check;
    private final Document document;
    private String heading;
    private String edge;

    Edges(Check check, Document document) {
        this.check = check;
        this.document = document;
    }

    abstract void all();

    final void under(String heading) {
        this.heading = heading;
    }

    /** These words of the document, under the heading, and a trial that they hold. */
    final void edge(String words, Trial trial) {
        edge = heading + ", " + words;
        if (!document.quote(heading, words)) {
            check.tell(edge + ": the document does not say that");
        }
        int before = check.many();
        try {
            trial.on(new Harbour());
        } catch (RuntimeException | AssertionError e) {
            check.tell(label() + " threw " + e);
        }
        if (check.many() == before) {
            check.tell(edge + ": nothing is looked at");
        }
    }

    /** Words of the document that no call of a right program can show to be broken. */
    final void noEdge(String words, String why) {
        if (!document.quote(heading, words) || why.isEmpty()) {
            check.tell(heading + ", " + words + ": the document does not say that");
        }
    }

    private String label() {
        return edge + ": " + Harbour.last;
    }

    final void is(long got, long due) {
        check.is(label(), got, due);
    }

    final void is(boolean got, boolean due) {
        check.is(label(), got, due);
    }

    final void is(String got, String due) {
        check.is(label(), got, due);
    }

    /** The call throws that, by a throw of the program, and nothing that calls can show is changed by it. */
    final void refuses(Harbour h, Class<?> due, String name, int... arguments) {
        Call call = new Call(name, arguments);
        RuntimeException thrown = h.thrownBy(call);
        boolean isDue = thrown != null && thrown.getClass() == due && Check.isThrownByProgram(thrown);
        check.is(label() + " throws " + due.getSimpleName() + ", not " + thrown, isDue, true);
        check.is(label() + " is refused and changes nothing", h.isSameBehind(call), true);
    }

    /** The call is refused with each of these in the place of the argument. */
    final void refusesEach(Harbour h, Class<?> due, int[] values, int place, String name, int... arguments) {
        for (int value : values) {
            int[] changed = arguments.clone();
            changed[place] = value;
            refuses(h, due, name, changed);
        }
    }

    final void refusesOutside(Harbour h, Class<?> due, int least, int most, int place, String name, int... arguments) {
        refusesEach(h, due, new int[] {MIN, least - 1, most + 1, MAX}, place, name, arguments);
    }

    final void refusesRegions(Harbour h, String name, int... arguments) {
        refusesEach(h, INDEX, NOT_REGIONS, 0, name, arguments);
    }

    // ---- what fills a harbour

    static int[] join(int[]... rows) {
        int many = 0;
        for (int[] row : rows) {
            many += row.length;
        }
        int[] all = new int[many];
        int at = 0;
        for (int[] row : rows) {
            System.arraycopy(row, 0, all, at, row.length);
            at += row.length;
        }
        return all;
    }

    static int[] times(int many, int... row) {
        int[][] rows = new int[many][];
        Arrays.fill(rows, row);
        return join(rows);
    }

    /** Bytes that are cut into one part, others for each number: pairs first, of which there are 52, then triples. */
    static int[] bytesOfPart(int number) {
        int left = number;
        for (int a = 0; a < 16; a++) {
            for (int b = 0; b < 16; b++) {
                if (ends(a, b) && left-- == 0) {
                    return new int[] {a, b};
                }
            }
        }
        for (int first = 0; first < 256; first++) {
            int a = first / 16;
            int b = first % 16;
            for (int c = 0; c < 16; c++) {
                if (!ends(a, b) && ends(b, c) && left-- == 0) {
                    return new int[] {a, b, c};
                }
            }
        }
        throw new AssertionError("there are not so many");
    }

    private static boolean ends(int a, int b) {
        return (3 * a + b) % 5 == 0;
    }

    /** So many parts ever, with the numbers from 0, by objects of the key c. */
    static void fillParts(Harbour h, int region, int many) {
        int[] bytes = {};
        for (int number = 0; number < many; number++) {
            int[] next = bytesOfPart(number);
            if (bytes.length + next.length > 40) {
                h.put(region, C, bytes);
                bytes = new int[] {};
            }
            bytes = join(bytes, next);
        }
        h.put(region, C, bytes);
    }

    static void fillVersions(Harbour h, int region, int key, int many) {
        for (int i = 0; i < many; i++) {
            h.put(region, key, ONE);
        }
    }

    /**
     * So many numbers, of objects and marks of the key a in the region 0, with a rule that drops them from time to
     * time; the last one is an object if there is an odd number of them.
     */
    static void fillNumbers(Harbour h, int many) {
        h.rule(0, 0, 3);
        for (int number = 1; number <= many; number++) {
            if (number % 2 == 1) {
                h.put(0, A, ONE);
            } else {
                h.delete(0, A);
            }
            if (number % 39 == 0) {
                h.pass(1);
            }
        }
    }

    /** All keys, by the order of words. */
    static List<Integer> keys() {
        List<Integer> all = new ArrayList<>();
        for (int first = 1; first <= 4; first++) {
            all.add(first);
            for (int second = 1; second <= 4; second++) {
                all.add(first * 5 + second);
                for (int third = 1; third <= 4; third++) {
                    all.add((first * 5 + second) * 5 + third);
                }
            }
        }
        return all;
    }

    /** The nodes of a part in its order, told anew from the document. */
    static List<Integer> order(int part) {
        List<Integer> nodes = new ArrayList<>();
        for (int rank = 30; rank >= 0; rank--) {
            for (int node = 0; node < 6; node++) {
                if ((7 * part + 13 * node + 5 * part * node) % 31 == rank) {
                    nodes.add(node);
                }
            }
        }
        return nodes;
    }

    static int goodShards(Harbour h, int region, int part) {
        return h.partIs(region, part, 2);
    }

    static int count(Harbour h, int region, int part) {
        return h.partIs(region, part, 0);
    }
}
