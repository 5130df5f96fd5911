import java.util.List;

/** Terms: keys and versions, days, rules of ageing, costs. */
final class KeyEdges extends Edges {
    KeyEdges(Check check, Document document) {
        super(check, document);
    }

    @Override
    void all() {
        under("What it is");
        calls();
        under("Terms");
        noEdge("Keys, versions", "a heading");
        keys84();
        versions();
        locks();
        rules();
        cold();
    }

    private void calls() {
        noEdge("A harbour of objects in two regions: bytes cut by their content into parts that are shared and counted, "
                + "coded into shards on nodes so that two of five may be lost, mended by rank of danger; versions, marks "
                + "of deleting and locks, ageing between classes, cold objects that are to be asked for first, lists by "
                + "beginnings, words that hold only on a condition, uploads in pieces, and regions that follow one "
                + "another until both tell the same.", "what other sentences tell more closely");
        edge("An object is used for at most 512 calls after it has been made; what later calls answer is free.", h -> {
            h.draft(1, 0, 40);
            for (int i = 0; i < 38; i++) {
                h.put(0, A, -1);
                h.draft(1, 0, 40);
            }
            h.put(0, A, -1);
            h.follow(0, 99);
            for (int i = 1; i <= 430; i++) {
                is(h.pass(30), 30 * i);
            }
            is(h.cost(0), 39 * 2 * 40 * 4 * 30 * 430);
            is(h.about(0, A, 1, 3), 0);
        });
    }

    private void keys84() {
        edge("A key has 1 to 3 letters, a to d, told as digits to the base 5, a as 1, the first letter highest;", h -> {
            List<Integer> all = keys();
            is(all.size(), 84);
            for (int key = 0; key <= 130; key++) {
                if (!all.contains(key)) {
                    refuses(h, ARGUMENT, "letter", key, 0);
                } else {
                    int last = key % 5;
                    int at = key < 5 ? 0 : key < 25 ? 1 : 2;
                    is(h.letter(key, at), 'a' + last - 1);
                    is(h.letter(key, 0), 'a' + (key < 5 ? key : key < 25 ? key / 5 : key / 25) - 1);
                }
            }
            is(h.letter(38, 1), 'b');
            is(h.letter(38, 2), 'c');
            refusesEach(h, ARGUMENT, new int[] {MIN, -1, -6, 155, 156, 31 * 5 + 1, 624, 625, MAX}, 0, "letter", 0, 0);
        });
        edge("the beginning of a key is told likewise, 0 being that of all.", h -> {
            for (int key : new int[] {A, AA, AAA, AB, B}) {
                h.put(0, key, ONE);
            }
            int[] beginnings = {0, A, AA, AAA, AB, B, C, AAB};
            int[] many = {5, 4, 2, 1, 1, 1, 0, 0};
            for (int i = 0; i < beginnings.length; i++) {
                if (many[i] > 0) {
                    is(h.list(0, beginnings[i], 0, many[i] - 1) != 0, true);
                }
                is(h.list(0, beginnings[i], 0, many[i]), 0);
            }
            is(h.list(0, AA, 0, 0), AA);
            is(h.list(0, AAA, 0, 0), AAA);
        });
        edge("Keys are ordered as words.", h -> {
            List<Integer> all = keys();
            for (int i = 0; i < all.size(); i += 3) {
                h.put(0, all.get(i), ONE);
            }
            for (int i = 0; i < all.size(); i++) {
                int next = i - i % 3 + 3;
                is(h.list(0, 0, all.get(i), 0), next < all.size() ? all.get(next) : 0);
                is(h.list(0, 0, 0, i), 3 * i < all.size() ? all.get(3 * i) : 0);
            }
            h.put(1, DDD, ONE);
            h.put(1, D, ONE);
            h.put(1, 24, ONE);
            is(h.list(1, 0, 0, 0), D);
            is(h.list(1, 0, D, 0), 24);
            is(h.list(1, 0, 24, 0), DDD);
            is(h.list(1, 0, DDD, 0), 0);
        });
    }

    private void versions() {
        edge("Versions are numbered from 1 over both regions, at most 200 ever.", h -> {
            is(h.put(0, A, ONE), 1);
            is(h.put(1, A, ONE), 2);
            is(h.delete(1, A), 3);
            is(h.put(0, B, ONE), 4);
        });
        edge("at most 200 ever.", h -> {
            fillNumbers(h, 199);
            is(h.delete(0, A), 200);
            h.bytes(1);
            refuses(h, STATE, "put", 0, A, -1);
            refuses(h, STATE, "put", 1, B, 0);
            is(h.follow(0, 39), 39);
            refuses(h, STATE, "put", 1, A, -1);
        });
        edge("A key has versions by rising numbers, each an object or a mark that it is deleted; the latest one "
                + "counts.", h -> {
            h.put(0, A, ONE);
            h.delete(0, A);
            h.put(1, A, new int[] {5});
            is(h.versions(0, A), "1 2");
            is(h.read(0, A, 0, 0), -2);
            is(h.list(0, 0, 0, 0), 0);
            is(h.follow(0, 99), 2);
            is(h.versions(1, A), "1 2 3");
            is(h.read(1, A, 0, 0), 5);
            is(h.list(1, 0, 0, 0), A);
            is(h.delete(1, A), 4);
            is(h.follow(1, 99), 2);
            is(h.versions(0, A), "1 2 3 4");
            h.drop(0, A, 4);
            is(h.read(0, A, 0, 0), 5);
            h.drop(0, A, 3);
            is(h.read(0, A, 0, 0), -2);
            h.drop(0, A, 2);
            is(h.read(0, A, 0, 0), 1);
        });
        edge("At most 40 are in a region.", h -> {
            fillVersions(h, 0, A, 38);
            is(h.delete(0, A), 39);
            is(h.put(0, B, ONE), 40);
            h.upload(0, C);
            h.bytes(1);
            h.piece(0, 1);
            h.bytes(1);
            refuses(h, STATE, "put", 0, A, -1);
            refuses(h, STATE, "put", 0, DDD, 0);
            refuses(h, STATE, "delete", 0, B);
            refuses(h, STATE, "finish", 0, 0);
            is(h.put(1, A, -1), 41);
            is(h.follow(1, 1), 0);
            is(h.drop(0, A, 39), 38);
            is(h.follow(1, 1), 1);
            refuses(h, STATE, "finish", 0, 0);
            is(h.drop(0, A, 1), 38);
            is(h.finish(0, false), 42);
            refuses(h, STATE, "delete", 0, B);
        });
        edge("A version has the day on which it came about, a class, 0 at first, and a lock until a day, -1 at "
                + "first.", h -> {
            h.rule(0, 0, 1);
            h.put(0, A, ONE);
            h.pass(7);
            h.put(0, A, ONE);
            h.delete(0, A);
            int[][] due = {{0, 1, -1}, {7, 0, -1}, {7, 0, -1}};
            for (int version = 1; version <= 3; version++) {
                is(h.about(0, A, version, 3), due[version - 1][0]);
                is(h.about(0, A, version, 2), due[version - 1][1]);
                is(h.about(0, A, version, 4), due[version - 1][2]);
            }
            h.upload(1, B);
            h.bytes(1);
            h.piece(0, 1);
            h.pass(2);
            is(h.finish(0, false), 4);
            is(h.about(1, B, 4, 3), 9);
            is(h.about(1, B, 4, 2), 0);
            is(h.about(1, B, 4, 4), -1);
        });
    }

    private void locks() {
        edge("While that day is not over it cannot be dropped.", h -> {
            h.put(0, A, ONE);
            h.put(0, A, ONE);
            h.delete(0, A);
            h.lock(0, A, 1, 2);
            h.lock(0, A, 2, 0);
            h.lock(0, A, 3, 3);
            h.rule(0, 0, 3);
            refuses(h, STATE, "drop", 0, A, 1);
            refuses(h, STATE, "drop", 0, A, 2);
            h.pass(1);
            is(h.versions(0, A), "1 3");
            h.pass(1);
            refuses(h, STATE, "drop", 0, A, 1);
            is(h.versions(0, A), "1 3");
            h.pass(1);
            is(h.versions(0, A), "3");
            refuses(h, STATE, "drop", 0, A, 3);
            h.pass(1);
            is(h.drop(0, A, 3), 0);
        });
        edge("Days are counted from 0.", h -> {
            h.put(0, A, ONE);
            is(h.about(0, A, 1, 3), 0);
            is(h.pass(1), 1);
            h.put(0, A, ONE);
            is(h.about(0, A, 2, 3), 1);
        });
    }

    private void rules() {
        edge("Rules of ageing, at most 6, are of a beginning, days, and a class, 1 or 2, or 3:", h -> {
            refusesOutside(h, ARGUMENT, 1, 3, 2, "rule", 0, 0, 1);
            for (int many = 1; many <= 6; many++) {
                is(h.rule(many == 1 ? 0 : many < 5 ? many : many + 1, many, 1 + many % 3), many);
            }
            refuses(h, STATE, "rule", 0, 0, 1);
        });
        edge("when a day begins, each object whose key has the beginning and that is so many days old, or more, becomes "
                + "of that class, if its own is lower;", h -> {
            int[] keysOfRegion0 = {A, AA, AAA, AB, B};
            for (int key : keysOfRegion0) {
                h.put(0, key, ONE);
            }
            h.put(1, AAB, ONE);
            h.put(0, AAA, ONE);
            h.delete(0, AAA);
            h.rule(AA, 2, 1);
            is(h.about(0, AA, 2, 2), 0);
            h.pass(1);
            is(h.about(0, AA, 2, 2), 0);
            h.put(0, AA, ONE);
            h.pass(1);
            int[] due = {0, 1, 1, 0, 0};
            for (int i = 0; i < due.length; i++) {
                is(h.about(0, keysOfRegion0[i], i + 1, 2), due[i]);
            }
            is(h.about(1, AAB, 6, 2), 1);
            is(h.about(0, AAA, 7, 2), 1);
            is(h.about(0, AAA, 8, 2), 0);
            is(h.about(0, AA, 9, 2), 0);
            h.pass(1);
            is(h.about(0, AA, 9, 2), 1);
            h.rule(AAA, 0, 2);
            h.rule(AAA, 0, 1);
            is(h.about(0, AAA, 3, 2), 1);
            h.pass(1);
            is(h.about(0, AAA, 3, 2), 2);
            is(h.about(0, AA, 2, 2), 1);
            h.pass(5);
            is(h.about(0, AAA, 3, 2), 2);
            is(h.about(0, A, 1, 2), 0);
        });
        edge("that is so many days old, or more,", h -> {
            h.put(0, A, ONE);
            h.rule(0, 99, 2);
            h.rule(0, 98, 1);
            h.pass(30);
            h.pass(30);
            h.pass(30);
            h.pass(7);
            is(h.about(0, A, 1, 2), 0);
            is(h.pass(1), 98);
            is(h.about(0, A, 1, 2), 1);
            is(h.pass(1), 99);
            is(h.about(0, A, 1, 2), 2);
        });
        edge("for 3 each version, a mark, too, that is not the latest one, so old, and not locked, is dropped.", h -> {
            h.put(0, A, ONE);
            h.delete(0, A);
            h.put(0, A, ONE);
            h.put(0, AB, ONE);
            h.put(0, B, ONE);
            h.put(0, B, ONE);
            h.put(1, A, ONE);
            h.delete(1, A);
            h.lock(0, A, 1, 2);
            h.rule(A, 2, 3);
            h.pass(1);
            h.put(0, A, ONE);
            h.put(0, A, ONE);
            is(h.versions(0, A), "1 2 3 9 10");
            h.pass(1);
            is(h.versions(0, A), "1 9 10");
            is(h.versions(0, AB), "4");
            is(h.versions(0, B), "5 6");
            is(h.versions(1, A), "8");
            is(count(h, 0, 0), 6);
            h.pass(1);
            is(h.versions(0, A), "10");
            is(h.agrees(0), true);
            h.delete(0, A);
            h.pass(2);
            is(h.versions(0, A), "11");
        });
        edge("Rules are done in their order.", h -> {
            int[][] rules = {{1, 2, 3}, {3, 2, 1}, {2, 3, 1}, {1, 3, 2}};
            for (int[] order : rules) {
                Harbour x = new Harbour();
                for (int to : order) {
                    x.rule(0, 1, to);
                }
                x.put(0, A, ONE);
                x.put(0, A, ONE);
                x.pass(1);
                is(x.versions(0, A), "2");
                is(x.about(0, A, 2, 2), 2);
            }
        });
    }

    private void cold() {
        edge("An object of the class 2 is cold: it can be read from two days behind being asked for, for three days; "
                + "it is not asked for then any more.", h -> {
            h.put(0, A, ONE);
            h.rule(0, 1, 1);
            h.rule(0, 2, 2);
            is(h.read(0, A, 1, 0), 1);
            h.pass(1);
            is(h.read(0, A, 1, 0), 1);
            h.pass(1);
            is(h.read(0, A, 1, 0), -3);
            is(h.ask(0, A, 1), 4);
            int[] due = {-3, -3, 1, 1, 1};
            for (int answer : due) {
                is(h.read(0, A, 1, 0), answer);
                refuses(h, STATE, "ask", 0, A, 1);
                h.pass(1);
            }
            is(h.read(0, A, 1, 0), -3);
            is(h.ask(0, A, 1), 9);
            h.pass(5);
            is(h.read(0, A, 1, 0), -3);
            h.pass(1);
            is(h.ask(0, A, 1), 15);
        });
        edge("When a day ends, each object costs its bytes times 4, 2 or 1, by its class 0, 1 or 2.", h -> {
            h.put(0, A, new int[] {1, 2, 3});
            h.put(0, A, ONE);
            h.delete(0, A);
            h.put(1, AA, times(40, 2));
            h.rule(0, 1, 1);
            h.rule(0, 2, 2);
            is(h.cost(0) + h.cost(1) + h.cost(2), 0);
            int[][] due = {{176, 0, 0}, {176, 88, 0}, {176, 88, 44}, {176, 88, 88}};
            for (int[] costs : due) {
                h.pass(1);
                for (int of = 0; of < 3; of++) {
                    is(h.cost(of), costs[of]);
                }
            }
        });
    }
}
