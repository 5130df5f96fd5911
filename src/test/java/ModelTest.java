import java.util.Random;

/** Holds runs of calls, drawn from written seeds, against the Model: each answer and each exception. */
public final class ModelTest {
    private static final int RUNS = 3000;
    private static final int CALLS = 512;
    private static final int KINDS = 28;

    private final Random random;
    private final int[] keys;
    private final int[] weights;
    private final int style;
    private BlobHarbor program;
    private Model model;
    private String call;
    private int lastNumber;

    private ModelTest(long seed) {
        random = new Random(seed);
        keys = new int[2 + random.nextInt(7)];
        for (int i = 0; i < keys.length; i++) {
            keys[i] = someKey();
        }
        weights = new int[KINDS];
        for (int i = 0; i < KINDS; i++) {
            weights[i] = random.nextInt(4) == 0 ? 0 : 1 + random.nextInt(6);
        }
        weights[0] += 4;
        weights[2] += 4;
        style = (int) (seed % 5);
        lean(style);
    }

    /** Some runs lean to what fills a harbour: versions, numbers, parts; or to shards that are lost and mended. */
    private void lean(int style) {
        int[][] more = {{}, {2, 3, 24}, {2, 3, 21}, {2, 2}, {2, 6, 16, 17, 18, 26}};
        if (style == 2) {
            for (int kind = 0; kind < KINDS; kind++) {
                weights[kind] = random.nextInt(3) / 2;
            }
            weights[2] = 60;
        }
        for (int kind : more[style]) {
            weights[kind] += 12;
        }
        if (style > 0 && style < 4) {
            weights[16] = 0;
            weights[20] = 0;
        }
    }

    public static void main(String[] args) {
        Check check = new Check("ModelTest");
        int runs = args.length > 0 ? Integer.parseInt(args[0]) : RUNS;
        for (int seed = 0; seed < runs; seed++) {
            new ModelTest(seed).run(check, seed);
        }
        check.end();
    }

    private void run(Check check, int seed) {
        program = new BlobHarbor();
        model = new Model();
        StringBuilder told = new StringBuilder();
        for (int i = 0; i < CALLS; i++) {
            int[] a = i == 0 && style == 2 ? new int[] {20, 0, 0, 3} : arguments();
            String due = answer(true, a);
            String got = answer(false, a);
            told.append(call).append(" -> ").append(got).append('\n');
            check.is("seed " + seed + " call " + i + " " + call, got, due);
            if (!got.equals(due)) {
                System.out.println(told);
                return;
            }
        }
    }

    private int someKey() {
        int key = 1 + random.nextInt(4);
        for (int more = random.nextInt(3); more > 0; more--) {
            key = key * 5 + 1 + random.nextInt(4);
        }
        return key;
    }

    private int key() {
        int r = random.nextInt(40);
        if (r == 0) {
            return wild();
        }
        if (r > 20) {
            int last = model.list(random.nextInt(2), 0, 0, random.nextInt(3));
            return last == 0 ? keys[0] : last;
        }
        return r < 3 ? someKey() : keys[random.nextInt(keys.length)];
    }

    private int wild() {
        int[] some = {Integer.MIN_VALUE, -2, -1, 0, 5, 10, 25, 26, 50, 120, 125, 150, 200, 1000, Integer.MAX_VALUE};
        return some[random.nextInt(some.length)];
    }

    private int upTo(int least, int most) {
        if (random.nextInt(50) == 0) {
            return random.nextBoolean() ? wild() : random.nextBoolean() ? least - 1 : most + 1;
        }
        return least + random.nextInt(most - least + 1);
    }

    private int region() {
        return random.nextInt(60) == 0 ? wild() : random.nextInt(2);
    }

    private int number(int region, int key, boolean zero) {
        int r = random.nextInt(20);
        if (r == 0) {
            return random.nextInt(lastNumber + 3) - 1;
        }
        if (zero && r < 6) {
            return 0;
        }
        if (region < 0 || region > 1 || Model.name(key) == null) {
            return 1 + random.nextInt(lastNumber + 1);
        }
        int many = 0;
        while (model.version(region, key, many) != 0) {
            many++;
        }
        return many == 0 ? 1 : model.version(region, key, random.nextInt(many));
    }

    private int kind() {
        int sum = 0;
        for (int w : weights) {
            sum += w;
        }
        int r = random.nextInt(sum);
        for (int kind = 0; ; kind++) {
            r -= weights[kind];
            if (r < 0) {
                return kind;
            }
        }
    }

    private int[] arguments() {
        int kind = kind();
        if ((kind == 2 || kind == 9) && model.drafted() == 0 && random.nextInt(20) > 0) {
            kind = 0;
        }
        int r = region();
        int k = key();
        switch (kind) {
            case 0: return style == 2 ? new int[] {0, upTo(0, 3), 0, upTo(1, 3)} : new int[] {0, upTo(0, 15), upTo(0, 15), random.nextInt(4) == 0 || style == 3 ? upTo(1, 40) : upTo(1, 9)};
            case 2: return new int[] {2, r, k, random.nextInt(style == 2 ? 30 : 3) > 0 ? -1 : number(r, k, true)};
            case 4: return new int[] {4, r, k, number(r, k, false)};
            case 5: return new int[] {5, r, k, number(r, k, false), random.nextInt(3) == 0 ? upTo(0, 999) : upTo(0, 30)};
            case 6: return new int[] {6, r, k, number(r, k, true), upTo(0, 12)};
            case 7: return new int[] {7, r, k, number(r, k, false)};
            case 9: return new int[] {9, upTo(0, 5), upTo(1, 9)};
            case 10: return new int[] {10, upTo(0, 5), random.nextInt(4)};
            case 11: return new int[] {11, r, random.nextBoolean() ? 0 : k, random.nextBoolean() ? 0 : key(), upTo(0, 5)};
            case 12: return new int[] {12, r, k, upTo(0, 4)};
            case 13: return new int[] {13, r, k, number(r, k, false), upTo(0, 5)};
            case 14: return new int[] {14, r, k, number(r, k, false), upTo(0, 6)};
            case 15: return new int[] {15, r, upTo(0, 40), upTo(0, 7)};
            case 16: return new int[] {16, r, upTo(0, 5), random.nextInt(2)};
            case 17: return new int[] {17, r, upTo(0, 40), upTo(0, 4)};
            case 18: case 19: case 24: return new int[] {kind, r, upTo(1, random.nextBoolean() ? 4 : 99)};
            case 20: return new int[] {20, random.nextBoolean() ? 0 : k, random.nextBoolean() ? upTo(0, 6) : upTo(0, 99), upTo(1, 3)};
            case 21: return new int[] {21, random.nextInt(3) > 0 ? upTo(1, 3) : upTo(1, 30)};
            case 22: return new int[] {22, upTo(0, 2)};
            case 27: return new int[] {27, r, random.nextInt(30) == 0 ? wild() : k, upTo(0, 4)};
            default: return new int[] {kind, r, k};
        }
    }

    private String answer(boolean ofModel, int[] a) {
        try {
            long got = a[0] < 14 ? first(ofModel, a) : second(ofModel, a);
            return Long.toString(got);
        } catch (RuntimeException e) {
            return e.getClass().getName() + (ofModel || Check.isThrownByProgram(e) ? "" : " not by the program");
        }
    }

    private long first(boolean m, int[] a) {
        BlobHarbor x = program;
        switch (a[0]) {
            case 0: told("draft", a); return m ? model.draft(a[1], a[2], a[3]) : x.draft(a[1], a[2], a[3]);
            case 1: told("clear", a); return m ? model.clear() : x.clear();
            case 2: told("put", a); return number(m ? model.put(a[1], a[2], a[3]) : x.put(a[1], a[2], a[3]));
            case 3: told("delete", a); return number(m ? model.delete(a[1], a[2]) : x.delete(a[1], a[2]));
            case 4: told("drop", a); return m ? model.drop(a[1], a[2], a[3]) : x.drop(a[1], a[2], a[3]);
            case 5: told("lock", a); return m ? model.lock(a[1], a[2], a[3], a[4]) : x.lock(a[1], a[2], a[3], a[4]);
            case 6: told("read", a); return m ? model.read(a[1], a[2], a[3], a[4]) : x.read(a[1], a[2], a[3], a[4]);
            case 7: told("ask", a); return m ? model.ask(a[1], a[2], a[3]) : x.ask(a[1], a[2], a[3]);
            case 8: told("upload", a); return m ? model.upload(a[1], a[2]) : x.upload(a[1], a[2]);
            case 9: told("piece", a); return m ? model.piece(a[1], a[2]) : x.piece(a[1], a[2]);
            case 10: told("finish", a); return number(m ? model.finish(a[1], a[2] == 0) : x.finish(a[1], a[2] == 0));
            case 11: told("list", a); return m ? model.list(a[1], a[2], a[3], a[4]) : x.list(a[1], a[2], a[3], a[4]);
            case 12: told("version", a); return m ? model.version(a[1], a[2], a[3]) : x.version(a[1], a[2], a[3]);
            default: told("about", a); return m ? model.about(a[1], a[2], a[3], a[4]) : x.about(a[1], a[2], a[3], a[4]);
        }
    }

    private long second(boolean m, int[] a) {
        BlobHarbor x = program;
        switch (a[0]) {
            case 14: told("part", a); return m ? model.part(a[1], a[2], a[3], a[4]) : x.part(a[1], a[2], a[3], a[4]);
            case 15: told("partIs", a); return m ? model.partIs(a[1], a[2], a[3]) : x.partIs(a[1], a[2], a[3]);
            case 16: told("node", a); return m ? model.node(a[1], a[2], a[3] == 1) : x.node(a[1], a[2], a[3] == 1);
            case 17: told("rot", a); return (m ? model.rot(a[1], a[2], a[3]) : x.rot(a[1], a[2], a[3])) ? 1 : 0;
            case 18: told("mend", a); return m ? model.mend(a[1], a[2]) : x.mend(a[1], a[2]);
            case 19: told("sweep", a); return m ? model.sweep(a[1], a[2]) : x.sweep(a[1], a[2]);
            case 20: told("rule", a); return m ? model.rule(a[1], a[2], a[3]) : x.rule(a[1], a[2], a[3]);
            case 21: told("pass", a); return m ? model.pass(a[1]) : x.pass(a[1]);
            case 22: told("cost", a); return m ? model.cost(a[1]) : x.cost(a[1]);
            case 23: told("behind", a); return m ? model.behind(a[1]) : x.behind(a[1]);
            case 24: told("follow", a); return m ? model.follow(a[1], a[2]) : x.follow(a[1], a[2]);
            case 25: told("areAlike", a); return (m ? model.areAlike() : x.areAlike()) ? 1 : 0;
            case 26: told("agrees", a); return (m ? model.agrees(a[1]) : x.agrees(a[1])) ? 1 : 0;
            default: told("letter", a); return m ? model.letter(a[2], a[3]) : x.letter(a[2], a[3]);
        }
    }

    private int number(int got) {
        lastNumber = Math.max(lastNumber, got);
        return got;
    }

    private void told(String name, int[] a) {
        StringBuilder all = new StringBuilder(name);
        for (int i = 1; i < a.length; i++) {
            all.append(i == 1 ? '(' : ',').append(a[i]);
        }
        call = all.append(')').toString();
    }
}
