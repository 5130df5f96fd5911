import java.util.ArrayList;
import java.util.List;
import java.util.Set;
import java.util.TreeSet;

/**
 * All that calls can show of a harbour, as a text. The harbour is made again by its calls as often as there is
 * something to ask that changes it, or as the 512 calls that the document speaks of are used up.
 */
final class Look {
    private static final int REGIONS = 2;
    private static final int PARTS = 90;
    // More than there can be of bytes, parts or versions, so that a wrong program cannot hold the test up.
    private static final int MOST_PLACES = 99;
    private static final int FREE_KEY = 124;
    private static final long NO_ANSWER = -1000;

    private final List<Call> calls;
    private final Call refused;
    private final Set<Integer> keys = new TreeSet<>();
    private final StringBuilder told = new StringBuilder();
    private BlobHarbor harbour;
    private int left;
    private boolean isPlain;

    private Look(List<Call> calls, Call refused) {
        this.calls = calls;
        this.refused = refused;
        for (Call call : calls) {
            keys.add(call.key());
        }
        keys.add(FREE_KEY);
        keys.remove(0);
    }

    /** The refused call, if it is not null, is made behind the others; what it throws is no matter here. */
    static String at(List<Call> calls, Call refused) {
        Look look = new Look(new ArrayList<>(calls), refused);
        look.asItIs();
        look.changed();
        return look.told.toString();
    }

    private void again(boolean isPlain) {
        this.isPlain = isPlain;
        harbour = new BlobHarbor();
        for (Call call : calls) {
            call.on(harbour);
        }
        if (refused != null) {
            int end = told.length();
            answer(refused);
            told.setLength(end);
        }
        left = Harbour.MOST_CALLS - 1 - calls.size();
    }

    private long answer(Call call) {
        try {
            long answer = call.on(harbour);
            told.append(answer).append(' ');
            return answer;
        } catch (RuntimeException e) {
            told.append(e.getClass().getSimpleName()).append(' ');
            return NO_ANSWER;
        }
    }

    /** The answer, or NO_ANSWER if the call throws, or if there is none left. */
    private long ask(String name, int... arguments) {
        if (left <= 0 && isPlain) {
            again(true);
        }
        if (left <= 0) {
            return NO_ANSWER;
        }
        left--;
        return answer(new Call(name, arguments));
    }

    // ---- questions that change nothing

    private void asItIs() {
        again(true);
        for (int region = 0; region < REGIONS; region++) {
            ask("behind", region);
            ask("agrees", region);
            long key = 1;
            for (int place = 0; key > 0 && place < MOST_PLACES; place++) {
                key = ask("list", region, 0, 0, place);
            }
        }
        ask("areAlike");
        costs();
        versions();
        parts();
    }

    private void costs() {
        for (int of = 0; of < 3; of++) {
            ask("cost", of);
        }
    }

    private void versions() {
        for (int region = 0; region < REGIONS; region++) {
            for (int key : keys) {
                long number = ask("version", region, key, 0);
                for (int place = 1; number > 0 && place < MOST_PLACES; place++) {
                    version(region, key, (int) number);
                    number = ask("version", region, key, place);
                }
            }
        }
    }

    private void version(int region, int key, int number) {
        for (int what = 0; what <= 5; what++) {
            ask("about", region, key, number, what);
        }
        long answer = 0;
        for (int at = 0; answer >= 0 && at < MOST_PLACES; at++) {
            answer = ask("read", region, key, number, at);
        }
        answer = 0;
        for (int place = 0; answer >= 0 && place < MOST_PLACES; place++) {
            answer = ask("part", region, key, number, place);
        }
    }

    private void parts() {
        for (int region = 0; region < REGIONS; region++) {
            for (int part = 0; part < PARTS; part++) {
                boolean isThere = ask("partIs", region, part, 0) >= 0;
                for (int what = 1; isThere && what <= 7; what++) {
                    ask("partIs", region, part, what);
                }
            }
        }
    }

    // ---- questions that change something, each on a harbour of its own

    private void changed() {
        draft();
        again(false);
        nodes();
        again(false);
        uploads();
        again(false);
        days();
        again(false);
        following();
        again(false);
        mendingAndSweeping();
    }

    /** In both regions, since one of them may be full. */
    private void draft() {
        for (int region = 0; region < REGIONS; region++) {
            again(false);
            ask("put", region, FREE_KEY, -1);
            versions();
            ask("clear");
            ask("draft", 1, 0, 1);
            ask("put", region, FREE_KEY, -1);
            ask("delete", region, FREE_KEY);
        }
    }

    private void nodes() {
        for (int region = 0; region < REGIONS; region++) {
            for (int node = 0; node < 6; node++) {
                ask("node", region, node, 1);
                ask("node", region, node, 0);
            }
        }
    }

    private void uploads() {
        for (int upload = 0; upload < 12; upload++) {
            ask("finish", upload, 0);
        }
        ask("upload", 0, FREE_KEY);
        versions();
    }

    private void days() {
        for (int i = 0; i < 6; i++) {
            ask("pass", 1);
            costs();
            for (int region = 0; region < REGIONS; region++) {
                for (int key : keys) {
                    ask("read", region, key, 0, 0);
                    ask("version", region, key, 0);
                }
            }
        }
        ask("rule", 0, 0, 2);
        ask("pass", 1);
        ask("pass", 30);
        costs();
        versions();
    }

    private void following() {
        for (int region = 0; region < REGIONS; region++) {
            ask("follow", region, 99);
            ask("behind", region);
        }
        versions();
    }

    private void mendingAndSweeping() {
        for (int region = 0; region < REGIONS; region++) {
            ask("mend", region, 99);
            ask("sweep", region, 99);
        }
        parts();
    }
}
