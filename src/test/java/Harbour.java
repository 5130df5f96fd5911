import java.util.ArrayList;
import java.util.List;

/**
 * A BlobHarbor under test. It counts the calls, since the document promises nothing behind the 512th one, and keeps
 * them, so that Look can make the same harbour again.
 */
final class Harbour {
    static final int MOST_CALLS = 512;

    /** The call that was made last, on any harbour, for what a test tells. */
    static String last = "";

    private final BlobHarbor harbour = new BlobHarbor();
    private final List<Call> answered = new ArrayList<>();
    private int calls;
    private String look;

    private long make(String name, int... arguments) {
        return make(new Call(name, arguments));
    }

    private long make(Call call) {
        count(call);
        long answer = call.on(harbour);
        answered.add(call);
        look = null;
        return answer;
    }

    private void count(Call call) {
        last = call.text();
        calls++;
        if (calls > MOST_CALLS) {
            throw new AssertionError("a test makes more calls than the document speaks of");
        }
    }

    /** What the call throws, or null. It is not made again by Look, since a call that throws changes nothing. */
    RuntimeException thrownBy(Call call) {
        count(call);
        try {
            call.on(harbour);
            return null;
        } catch (RuntimeException e) {
            return e;
        }
    }

    /** Whether nothing that calls can show tells a harbour with this call from one without it. */
    boolean isSameBehind(Call call) {
        if (look == null) {
            look = Look.at(answered, null);
        }
        return look.equals(Look.at(answered, call));
    }

    // ---- the face

    int draft(int first, int step, int many) {
        return (int) make("draft", first, step, many);
    }

    int clear() {
        return (int) make("clear");
    }

    int put(int region, int key, int condition) {
        return (int) make("put", region, key, condition);
    }

    int delete(int region, int key) {
        return (int) make("delete", region, key);
    }

    int drop(int region, int key, int version) {
        return (int) make("drop", region, key, version);
    }

    int lock(int region, int key, int version, int until) {
        return (int) make("lock", region, key, version, until);
    }

    int read(int region, int key, int version, int at) {
        return (int) make("read", region, key, version, at);
    }

    int ask(int region, int key, int version) {
        return (int) make("ask", region, key, version);
    }

    int upload(int region, int key) {
        return (int) make("upload", region, key);
    }

    int piece(int upload, int number) {
        return (int) make("piece", upload, number);
    }

    int finish(int upload, boolean givesUp) {
        return (int) make("finish", upload, givesUp ? 1 : 0);
    }

    int list(int region, int beginning, int after, int place) {
        return (int) make("list", region, beginning, after, place);
    }

    int version(int region, int key, int place) {
        return (int) make("version", region, key, place);
    }

    int about(int region, int key, int version, int what) {
        return (int) make("about", region, key, version, what);
    }

    int part(int region, int key, int version, int place) {
        return (int) make("part", region, key, version, place);
    }

    int partIs(int region, int part, int what) {
        return (int) make("partIs", region, part, what);
    }

    int node(int region, int node, boolean isUp) {
        return (int) make("node", region, node, isUp ? 1 : 0);
    }

    boolean rot(int region, int part, int shard) {
        return make("rot", region, part, shard) == 1;
    }

    int mend(int region, int most) {
        return (int) make("mend", region, most);
    }

    int sweep(int region, int most) {
        return (int) make("sweep", region, most);
    }

    int rule(int beginning, int days, int to) {
        return (int) make("rule", beginning, days, to);
    }

    int pass(int days) {
        return (int) make("pass", days);
    }

    int cost(int of) {
        return (int) make("cost", of);
    }

    int follow(int region, int most) {
        return (int) make("follow", region, most);
    }

    int behind(int region) {
        return (int) make("behind", region);
    }

    boolean areAlike() {
        return make("areAlike") == 1;
    }

    boolean agrees(int region) {
        return make("agrees", region) == 1;
    }

    char letter(int key, int at) {
        return (char) make("letter", key, at);
    }

    // ---- what tests do and ask often

    /** Adds these bytes to the draft, by as few calls as steps allow. */
    void bytes(int... bytes) {
        int from = 0;
        while (from < bytes.length) {
            int to = from + 1;
            int step = to < bytes.length ? bytes[to] - bytes[from] & 15 : 0;
            while (to < bytes.length && (bytes[to] - bytes[to - 1] & 15) == step) {
                to++;
            }
            draft(bytes[from], step, to - from);
            from = to;
        }
    }

    int put(int region, int key, int[] bytes) {
        bytes(bytes);
        return put(region, key, -1);
    }

    int piece(int upload, int number, int... bytes) {
        bytes(bytes);
        return piece(upload, number);
    }

    String read(int region, int key, int version) {
        StringBuilder all = new StringBuilder();
        int answer = 0;
        for (int at = 0; answer >= 0 && at <= 40; at++) {
            answer = read(region, key, version, at);
            all.append(answer).append(' ');
        }
        return all.toString().trim();
    }

    String versions(int region, int key) {
        StringBuilder all = new StringBuilder();
        int number = version(region, key, 0);
        for (int place = 1; number != 0; place++) {
            all.append(number).append(' ');
            number = version(region, key, place);
        }
        return all.toString().trim();
    }

    String parts(int region, int key, int version) {
        StringBuilder all = new StringBuilder();
        int number = part(region, key, version, 0);
        for (int place = 1; number != BlobHarbor.NONE; place++) {
            all.append(number).append(' ');
            number = part(region, key, version, place);
        }
        return all.toString().trim();
    }

    /** How many bytes the parts of a version have. */
    String lengths(int region, int key, int version) {
        StringBuilder all = new StringBuilder();
        for (String part : parts(region, key, version).split(" ")) {
            all.append(partIs(region, Integer.parseInt(part), 1));
        }
        return all.toString();
    }

    String nodes(int region, int part) {
        StringBuilder all = new StringBuilder();
        for (int what = 3; what <= 7; what++) {
            all.append(partIs(region, part, what)).append(' ');
        }
        return all.toString().trim();
    }

    void rot(int region, int part, int... shards) {
        for (int shard : shards) {
            rot(region, part, shard);
        }
    }

    void lose(int region, int... nodes) {
        for (int node : nodes) {
            node(region, node, false);
        }
    }
}
