/** Promises 1 to 9: a new object, the draft, objects. */
final class ObjectEdges extends Edges {
    ObjectEdges(Check check, Document document) {
        super(check, document);
    }

    @Override
    void all() {
        newObject();
        draft();
        clear();
        put();
        putRefused();
        delete();
        drop();
        lock();
        read();
        readRefused();
        ask();
    }

    private void newObject() {
        under("Promise 1");
        edge("Begins on the day 0, without objects, all nodes up, with an empty draft.", h -> {
            is(h.clear(), 0);
            for (int region = 0; region < 2; region++) {
                is(h.list(region, 0, 0, 0), 0);
                is(h.behind(region), 0);
                is(h.version(region, A, 0), 0);
                is(h.agrees(region), true);
                refuses(h, INDEX, "partIs", region, 0, 0);
                for (int node = 0; node < 6; node++) {
                    refuses(h, STATE, "node", region, node, 1);
                }
            }
            is(h.areAlike(), true);
            is(h.cost(0) + h.cost(1) + h.cost(2), 0);
            is(h.put(0, A, ONE), 1);
            is(h.about(0, A, 1, 3), 0);
            is(h.upload(0, A), 0);
            is(h.rule(0, 0, 1), 1);
            is(h.pass(1), 1);
        });
    }

    private void draft() {
        under("Promise 2");
        edge("Adds bytes to the draft: the first one, then each the step more, modulo 16.", h -> {
            h.draft(14, 1, 4);
            h.draft(3, 15, 5);
            h.draft(15, 15, 2);
            h.draft(9, 0, 2);
            h.put(0, A, -1);
            is(h.read(0, A, 1), "14 15 0 1 3 2 1 0 15 15 14 9 9 -1");
            h.draft(15, 15, 40);
            h.put(0, A, -1);
            is(h.read(0, A, 2, 15), 0);
            is(h.read(0, A, 2, 16), 15);
            is(h.read(0, A, 2, 39), 8);
        });
        edge("- `first`: 0 to 15", h -> {
            refusesOutside(h, ARGUMENT, 0, 15, 0, "draft", 0, 1, 1);
            is(h.draft(0, 1, 1), 1);
            is(h.draft(15, 1, 1), 2);
            h.put(0, A, -1);
            is(h.read(0, A, 1), "0 15 -1");
        });
        edge("- `step`: 0 to 15", h -> {
            refusesOutside(h, ARGUMENT, 0, 15, 1, "draft", 1, 1, 2);
            is(h.draft(1, 0, 2), 2);
            is(h.draft(1, 15, 2), 4);
            h.put(0, A, -1);
            is(h.read(0, A, 1), "1 1 1 0 -1");
        });
        edge("- `many`: 1 to 40", h -> {
            refusesOutside(h, ARGUMENT, 1, 40, 2, "draft", 1, 1, 2);
            is(h.draft(1, 1, 1), 1);
            h.clear();
            is(h.draft(1, 1, 40), 40);
            is(h.clear(), 40);
        });
        edge("Returns how many it has then.", h -> {
            is(h.draft(1, 1, 1), 1);
            is(h.draft(1, 1, 38), 39);
            is(h.draft(1, 1, 1), 40);
        });
        edge("Throws `IllegalArgumentException` as told", h -> {
            h.draft(1, 1, 40);
            refuses(h, ARGUMENT, "draft", 16, 1, 1);
            refuses(h, ARGUMENT, "draft", 1, -1, 1);
            refuses(h, ARGUMENT, "draft", 1, 1, 41);
            is(h.clear(), 40);
        });
        edge("Throws `IllegalStateException` if it would have more than 40", h -> {
            h.draft(2, 1, 39);
            refuses(h, STATE, "draft", 1, 1, 2);
            refuses(h, STATE, "draft", 1, 1, 40);
            is(h.draft(1, 1, 1), 40);
            refuses(h, STATE, "draft", 1, 1, 1);
            h.put(0, A, -1);
            is(h.read(0, A, 1, 38), 8);
            is(h.read(0, A, 1, 39), 1);
        });
    }

    private void clear() {
        under("Promise 3");
        edge("Empties the draft; returns how many bytes it had.", h -> {
            is(h.clear(), 0);
            h.draft(1, 1, 1);
            is(h.clear(), 1);
            is(h.clear(), 0);
            h.draft(1, 1, 40);
            is(h.clear(), 40);
            refuses(h, STATE, "put", 0, A, -1);
            h.put(0, A, new int[] {7});
            is(h.read(0, A, 1), "7 -1");
        });
    }

    private void put() {
        under("Promise 4");
        edge("Puts the draft as an object; the draft is empty then.", h -> {
            h.draft(1, 1, 40);
            is(h.put(0, A, -1), 1);
            is(h.about(0, A, 1, 0), 40);
            is(h.clear(), 0);
            refuses(h, STATE, "put", 0, A, -1);
            is(h.put(0, A, new int[] {7}), 2);
            is(h.read(0, A, 0), "7 -1");
        });
        edge("- `region`: 0 or 1", h -> {
            h.bytes(1);
            refusesRegions(h, "put", 0, A, -1);
            is(h.put(1, A, -1), 1);
            is(h.put(0, A, ONE), 2);
        });
        edge("- `key`: a key", h -> {
            h.bytes(1);
            refusesEach(h, ARGUMENT, SOME_NOT_KEYS, 1, "put", 0, A, -1);
            is(h.put(0, A, -1), 1);
            is(h.put(0, DDD, ONE), 2);
            is(h.put(0, 24, ONE), 3);
            is(h.put(0, AAA, ONE), 4);
        });
        edge("- `condition`: -1: none;", h -> {
            is(h.put(0, A, ONE), 1);
            is(h.put(0, A, ONE), 2);
            h.delete(0, A);
            is(h.put(0, A, ONE), 4);
        });
        edge("0: only if the latest version is a mark, or there is none;", h -> {
            h.bytes(1);
            is(h.put(0, A, 0), 1);
            h.bytes(2);
            is(h.put(0, A, 0), 0);
            h.delete(0, A);
            is(h.put(0, A, 0), 3);
            h.bytes(3);
            is(h.put(0, A, 0), 0);
            is(h.put(1, A, 0), 4);
            h.drop(0, A, 3);
            h.drop(0, A, 2);
            h.bytes(4);
            is(h.put(0, A, 0), 0);
            h.drop(0, A, 1);
            is(h.put(0, A, 0), 5);
        });
        edge("above 0: only if it, an object or a mark, has that number", h -> {
            h.bytes(1);
            is(h.put(0, A, 1), 0);
            is(h.put(0, A, -1), 1);
            h.bytes(2);
            is(h.put(0, A, 2), 0);
            is(h.put(0, A, MAX), 0);
            is(h.put(1, A, 1), 0);
            is(h.put(0, B, 1), 0);
            is(h.put(0, A, 1), 2);
            h.delete(0, A);
            h.bytes(3);
            is(h.put(0, A, 2), 0);
            is(h.put(0, A, 1), 0);
            is(h.put(0, A, 4), 0);
            is(h.put(0, A, 3), 4);
        });
        edge("Returns the number of the version; 0 if the condition does not hold, and nothing is done.", h -> {
            h.bytes(1, 2);
            is(h.put(0, A, 7), 0);
            is(h.version(0, A, 0), 0);
            is(h.behind(0), 0);
            refuses(h, INDEX, "partIs", 0, 0, 0);
            is(h.clear(), 2);
            is(h.put(0, A, ONE), 1);
            h.lose(0, 0, 1, 2, 3);
            h.bytes(1, 2);
            is(h.put(0, A, 0), 0);
            is(h.clear(), 2);
        });
    }

    private void putRefused() {
        edge("Throws `IndexOutOfBoundsException` as told", h -> {
            refusesRegions(h, "put", 0, 0, -2);
            h.bytes(1);
            refusesRegions(h, "put", 0, A, 7);
        });
        edge("Throws `IllegalArgumentException` if key is none, or condition is below -1", h -> {
            refuses(h, ARGUMENT, "put", 0, 0, -1);
            refuses(h, ARGUMENT, "put", 0, A, -2);
            h.bytes(1);
            refuses(h, ARGUMENT, "put", 0, 0, 7);
            refuses(h, ARGUMENT, "put", 0, 125, -1);
            refuses(h, ARGUMENT, "put", 0, A, -2);
            refuses(h, ARGUMENT, "put", 0, A, MIN);
            is(h.put(0, A, -1), 1);
        });
        edge("Throws `IllegalStateException` if the draft is empty,", h -> {
            refuses(h, STATE, "put", 0, A, -1);
            refuses(h, STATE, "put", 0, A, 0);
            refuses(h, STATE, "put", 0, A, 7);
            is(h.put(0, A, ONE), 1);
        });
        edge("or, the condition holding, it is FULL", h -> {
            fillVersions(h, 0, A, 40);
            h.bytes(1);
            refuses(h, STATE, "put", 0, A, -1);
            refuses(h, STATE, "put", 0, A, 40);
            refuses(h, STATE, "put", 0, B, 0);
            is(h.put(0, A, 0), 0);
            is(h.put(0, A, 39), 0);
            is(h.put(0, B, 40), 0);
            h.drop(0, A, 1);
            is(h.put(0, A, 40), 41);
        });
        edge("or, the condition holding, it is FULL", h -> {
            h.lose(0, 0, 1, 2, 3);
            h.bytes(1);
            refuses(h, STATE, "put", 0, A, 0);
            is(h.put(0, A, 1), 0);
            h.node(0, 0, true);
            is(h.put(0, A, 0), 1);
        });
        edge("or, the condition holding, it is FULL", h -> {
            fillParts(h, 0, 90);
            h.bytes(bytesOfPart(90));
            refuses(h, STATE, "put", 0, A, 0);
            is(h.put(0, A, 1), 0);
            h.clear();
            h.bytes(bytesOfPart(0));
            is(h.put(0, A, 0) > 0, true);
        });
        edge("or, the condition holding, it is FULL", h -> {
            fillNumbers(h, 199);
            h.bytes(1);
            is(h.put(0, A, 199), 200);
            h.bytes(1);
            refuses(h, STATE, "put", 0, A, 200);
            is(h.put(0, A, 199), 0);
        });
    }

    private void delete() {
        under("Promise 5");
        edge("Deletes a key: a mark is its latest version.", h -> {
            h.put(0, A, ONE);
            h.pass(3);
            h.lose(0, 0, 1, 2, 3, 4, 5);
            is(h.delete(0, A), 2);
            int[] due = {0, 0, 0, 3, -1, 1};
            for (int what = 0; what <= 5; what++) {
                is(h.about(0, A, 2, what), due[what]);
            }
            is(h.part(0, A, 2, 0), -1);
            is(h.read(0, A, 0, 0), -2);
            is(h.list(0, 0, 0, 0), 0);
        });
        edge("Returns the number of the mark; 0 if it has no version, or a mark as its latest one, and nothing is done, "
                + "ahead of what is thrown for room.", h -> {
            is(h.delete(0, A), 0);
            is(h.behind(0), 0);
            fillVersions(h, 0, A, 38);
            is(h.delete(1, A), 0);
            is(h.delete(0, A), 39);
            is(h.delete(0, A), 0);
            is(h.behind(0), 39);
            is(h.put(0, B, ONE), 40);
            is(h.delete(0, A), 0);
            is(h.delete(0, C), 0);
            refuses(h, STATE, "delete", 0, B);
        });
        edge("ahead of what is thrown for room.", h -> {
            fillNumbers(h, 200);
            is(h.delete(0, A), 0);
            is(h.delete(0, B), 0);
            is(h.delete(1, A), 0);
        });
        edge("Throws `IndexOutOfBoundsException` as told", h -> {
            h.put(0, A, ONE);
            refusesRegions(h, "delete", 0, 0);
            refusesRegions(h, "delete", 0, A);
            is(h.delete(0, A), 2);
        });
        edge("Throws `IllegalArgumentException` if key is none", h -> {
            h.put(0, A, ONE);
            refusesEach(h, ARGUMENT, SOME_NOT_KEYS, 1, "delete", 0, A);
            is(h.delete(0, DDD), 0);
        });
        edge("Throws `IllegalStateException` if there are 40 versions,", h -> {
            fillVersions(h, 0, A, 39);
            is(h.delete(0, A), 40);
            h.drop(0, A, 1);
            is(h.put(0, B, ONE), 41);
            refuses(h, STATE, "delete", 0, B);
            h.drop(0, A, 40);
            is(h.delete(0, A), 42);
            refuses(h, STATE, "delete", 0, B);
        });
        edge("or were 200", h -> {
            fillNumbers(h, 199);
            is(h.delete(0, A), 200);
            is(h.follow(0, 39), 39);
            h.drop(0, A, 200);
            refuses(h, STATE, "delete", 0, A);
            refuses(h, STATE, "delete", 1, A);
        });
    }

    private void drop() {
        under("Promise 6");
        edge("Drops a version, for ever.", h -> {
            h.put(0, A, ONE);
            h.put(0, A, ONE);
            h.follow(0, 1);
            is(h.drop(0, A, 1), 1);
            refuses(h, INDEX, "drop", 0, A, 1);
            is(h.drop(0, A, 2), 0);
            is(h.follow(1, 99), 0);
            is(h.follow(0, 99), 1);
            is(h.versions(0, A), "");
            is(h.drop(1, A, 1), 1);
            is(h.drop(1, A, 2), 0);
            is(h.follow(0, 99), 0);
            is(h.versions(1, A), "");
            is(h.put(0, A, ONE), 3);
        });
        edge("- `version`: a version of the key", h -> {
            h.put(0, A, ONE);
            h.put(0, B, ONE);
            h.put(1, A, ONE);
            refusesEach(h, INDEX, new int[] {MIN, -1, 0, 2, 3, 4, 200, 201, MAX}, 2, "drop", 0, A, 1);
            is(h.drop(1, A, 3), 0);
        });
        edge("Returns how many the key has then.", h -> {
            fillVersions(h, 0, A, 3);
            h.delete(0, A);
            h.put(0, AA, ONE);
            is(h.drop(0, A, 2), 3);
            is(h.drop(0, A, 4), 2);
            is(h.drop(0, A, 1), 1);
            is(h.drop(0, A, 3), 0);
            is(h.drop(0, AA, 5), 0);
        });
        edge("Throws `IndexOutOfBoundsException` as told", h -> {
            h.put(0, A, ONE);
            refusesRegions(h, "drop", 0, A, 1);
            refuses(h, INDEX, "drop", 0, A, 2);
            refuses(h, INDEX, "drop", 1, A, 1);
        });
        edge("Throws `IllegalArgumentException` if key is none", h -> {
            h.put(0, A, ONE);
            refusesEach(h, INDEX, SOME_NOT_KEYS, 1, "drop", 0, A, 1);
        });
        edge("Throws `IllegalStateException` if it is locked", h -> {
            h.put(0, A, ONE);
            h.delete(0, A);
            h.lock(0, A, 1, 1);
            h.lock(0, A, 2, 0);
            refuses(h, STATE, "drop", 0, A, 1);
            refuses(h, STATE, "drop", 0, A, 2);
            h.pass(1);
            refuses(h, STATE, "drop", 0, A, 1);
            is(h.drop(0, A, 2), 1);
            h.pass(1);
            is(h.drop(0, A, 1), 0);
        });
    }

    private void lock() {
        under("Promise 7");
        edge("Locks a version until a day, with that.", h -> {
            h.put(0, A, ONE);
            h.pass(4);
            is(h.lock(0, A, 1, 3), -1);
            is(h.drop(0, A, 1), 0);
            h.put(0, A, ONE);
            h.lock(0, A, 2, 4);
            refuses(h, STATE, "drop", 0, A, 2);
            is(h.about(0, A, 2, 4), 4);
            h.put(0, A, ONE);
            h.lock(0, A, 3, 5);
            h.pass(1);
            is(h.drop(0, A, 2), 1);
            refuses(h, STATE, "drop", 0, A, 3);
            h.pass(1);
            is(h.drop(0, A, 3), 0);
        });
        edge("- `version`: a version of the key", h -> {
            h.put(0, A, ONE);
            h.put(0, B, ONE);
            h.put(1, A, ONE);
            h.delete(0, A);
            refusesEach(h, INDEX, new int[] {MIN, -1, 0, 2, 3, 5, 201, MAX}, 2, "lock", 0, A, 1, 1);
            is(h.lock(0, A, 4, 1), -1);
            is(h.about(0, A, 1, 4), -1);
            is(h.about(0, B, 2, 4), -1);
        });
        edge("- `until`: 0 to 999", h -> {
            h.put(0, A, ONE);
            refusesOutside(h, ARGUMENT, 0, 999, 3, "lock", 0, A, 1, 1);
            is(h.lock(0, A, 1, 0), -1);
            is(h.lock(0, A, 1, 999), 0);
            is(h.about(0, A, 1, 4), 999);
            for (int i = 0; i < 33; i++) {
                h.pass(30);
            }
            is(h.pass(9), 999);
            refuses(h, STATE, "drop", 0, A, 1);
            is(h.pass(1), 1000);
            is(h.drop(0, A, 1), 0);
        });
        edge("Returns the day until which it was locked.", h -> {
            h.put(0, A, ONE);
            is(h.lock(0, A, 1, 2), -1);
            is(h.lock(0, A, 1, 7), 2);
            h.pass(30);
            is(h.lock(0, A, 1, 8), 7);
        });
        edge("Throws `IndexOutOfBoundsException` as told", h -> {
            h.put(0, A, ONE);
            refusesRegions(h, "lock", 0, A, 1, 1000);
            refuses(h, INDEX, "lock", 1, A, 1, 1);
            refuses(h, INDEX, "lock", 0, A, 2, 1000);
            refusesEach(h, INDEX, SOME_NOT_KEYS, 1, "lock", 0, A, 1, 1);
        });
        edge("Throws `IllegalArgumentException` if key is none, or until is out of range", h -> {
            h.put(0, A, ONE);
            h.lock(0, A, 1, 9);
            refuses(h, INDEX, "lock", 0, 5, 1, 9);
            refuses(h, ARGUMENT, "lock", 0, A, 1, -1);
            refuses(h, ARGUMENT, "lock", 0, A, 1, 1000);
            is(h.lock(0, A, 1, 999), 9);
        });
        edge("Throws `IllegalStateException` if it is locked until a later day, be that over or not", h -> {
            h.put(0, A, ONE);
            h.lock(0, A, 1, 5);
            refuses(h, STATE, "lock", 0, A, 1, 4);
            refuses(h, STATE, "lock", 0, A, 1, 0);
            is(h.lock(0, A, 1, 5), 5);
            is(h.lock(0, A, 1, 6), 5);
            h.pass(7);
            refuses(h, STATE, "lock", 0, A, 1, 5);
            is(h.lock(0, A, 1, 6), 6);
            is(h.lock(0, A, 1, 7), 6);
            refuses(h, STATE, "drop", 0, A, 1);
        });
    }

    private void read() {
        under("Promise 8");
        edge("Returns a byte of a version, its part being read from its shards.", h -> {
            h.put(0, A, new int[] {15, 0, 9, 1, 1, 1, 1, 1, 8});
            is(h.read(0, A, 1), "15 0 9 1 1 1 1 1 8 -1");
            h.rot(0, 1, 0, 1);
            is(h.read(0, A, 1), "15 0 9 1 1 1 1 1 8 -1");
            h.rot(0, 1, 2);
            is(h.read(0, A, 1, 1), 0);
            is(h.read(0, A, 1, 2), -4);
            is(h.read(0, A, 1, 7), -4);
            is(h.read(0, A, 1, 8), 8);
        });
        edge("- `version`: a version of the key; 0 for the latest one", h -> {
            h.put(0, A, ONE);
            h.put(0, A, new int[] {2});
            h.put(0, B, new int[] {3});
            refusesEach(h, INDEX, new int[] {MIN, -1, 3, 4, 201, MAX}, 2, "read", 0, A, 1, 0);
            is(h.read(0, A, 0, 0), 2);
            is(h.read(0, A, 1, 0), 1);
            is(h.read(0, A, 2, 0), 2);
            h.drop(0, A, 2);
            is(h.read(0, A, 0, 0), 1);
        });
        edge("- `at`: from 0", h -> {
            h.put(0, A, new int[] {4, 5});
            refuses(h, INDEX, "read", 0, A, 0, -1);
            is(h.read(0, A, 0, 0), 4);
            is(h.read(0, A, 0, 1), 5);
        });
        edge("Returns the byte; NONE behind its end;", h -> {
            h.put(0, A, ONE);
            h.draft(1, 1, 40);
            h.put(0, A, -1);
            is(h.read(0, A, 1, 0), 1);
            is(h.read(0, A, 1, 1), -1);
            is(h.read(0, A, 1, MAX), -1);
            is(h.read(0, A, 2, 39), 8);
            is(h.read(0, A, 2, 40), -1);
        });
        edge("GONE for a mark, or if there is no version;", h -> {
            is(h.read(0, A, 0, 0), -2);
            h.put(0, A, ONE);
            is(h.read(0, B, 0, 0), -2);
            is(h.read(1, A, 0, 0), -2);
            h.delete(0, A);
            is(h.read(0, A, 0, 0), -2);
            is(h.read(0, A, 2, 0), -2);
            is(h.read(0, A, 1, 0), 1);
            h.drop(0, A, 1);
            h.drop(0, A, 2);
            is(h.read(0, A, 0, 0), -2);
        });
        edge("COLD; LOST; the first of GONE, COLD, NONE, LOST.", h -> {
            h.put(0, A, new int[] {1, 2, 1});
            h.delete(0, A);
            h.rule(0, 1, 2);
            h.pass(1);
            h.lose(0, 0, 1, 2, 3, 4, 5);
            is(h.read(0, A, 0, 0), -2);
            is(h.read(0, A, 2, 9), -2);
            is(h.read(0, A, 1, 0), -3);
            is(h.read(0, A, 1, 3), -3);
            is(h.read(0, A, 1, MAX), -3);
            h.ask(0, A, 1);
            is(h.read(0, A, 1, 3), -3);
            h.pass(2);
            is(h.read(0, A, 1, 3), -1);
            is(h.read(0, A, 1, 2), -4);
            is(h.read(0, A, 1, 0), -4);
            is(h.read(0, A, 0, MAX), -2);
        });
    }

    private void readRefused() {
        edge("Throws `IndexOutOfBoundsException` as told (but not for 0), or if at is below 0", h -> {
            h.put(0, A, ONE);
            refusesRegions(h, "read", 0, A, 0, 0);
            refusesRegions(h, "read", 0, 5, 0, 0);
            refuses(h, INDEX, "read", 0, A, 2, 0);
            refuses(h, INDEX, "read", 0, A, -1, 0);
            refuses(h, INDEX, "read", 1, A, 1, 0);
            is(h.read(1, A, 0, 0), -2);
            refuses(h, INDEX, "read", 0, A, 0, -1);
            refuses(h, INDEX, "read", 0, A, 0, MIN);
            refuses(h, INDEX, "read", 0, A, 1, -1);
            refuses(h, INDEX, "read", 0, B, 0, -1);
            refusesEach(h, INDEX, SOME_NOT_KEYS, 1, "read", 0, A, 1, 0);
            refuses(h, INDEX, "read", 0, 5, 0, -1);
        });
        edge("Throws `IllegalArgumentException` if key is none", h -> {
            h.put(0, A, ONE);
            refusesEach(h, ARGUMENT, SOME_NOT_KEYS, 1, "read", 0, A, 0, 0);
            is(h.read(0, DDD, 0, 0), -2);
        });
    }

    private void ask() {
        under("Promise 9");
        edge("Asks for a cold object.", h -> {
            h.put(0, A, ONE);
            h.put(0, A, new int[] {2});
            h.put(1, A, new int[] {3});
            h.rule(0, 0, 2);
            h.pass(1);
            is(h.ask(0, A, 1), 3);
            h.pass(2);
            is(h.read(0, A, 1, 0), 1);
            is(h.read(0, A, 2, 0), -3);
            is(h.read(1, A, 3, 0), -3);
            is(h.ask(1, A, 3), 5);
        });
        edge("Asks for a cold object.", h -> {
            h.put(0, A, ONE);
            h.follow(0, 1);
            h.rule(0, 0, 2);
            h.pass(1);
            is(h.ask(0, A, 1), 3);
            h.pass(2);
            is(h.read(0, A, 1, 0), 1);
            is(h.read(1, A, 1, 0), -3);
            is(h.ask(1, A, 1), 5);
        });
        edge("- `version`: a version of the key", h -> {
            h.put(0, A, ONE);
            h.put(0, B, ONE);
            h.rule(0, 0, 2);
            h.pass(1);
            refusesEach(h, INDEX, new int[] {MIN, -1, 0, 2, 3, 201, MAX}, 2, "ask", 0, A, 1);
            is(h.ask(0, A, 1), 3);
        });
        edge("Returns the day from which it can be read.", h -> {
            h.put(0, A, ONE);
            h.rule(0, 0, 2);
            h.pass(11);
            is(h.ask(0, A, 1), 13);
            h.pass(1);
            is(h.read(0, A, 1, 0), -3);
            is(h.pass(1), 13);
            is(h.read(0, A, 1, 0), 1);
        });
        edge("Throws `IndexOutOfBoundsException` as told", h -> {
            h.put(0, A, ONE);
            h.rule(0, 0, 2);
            h.pass(1);
            refusesRegions(h, "ask", 0, A, 1);
            refuses(h, INDEX, "ask", 1, A, 1);
            refuses(h, INDEX, "ask", 0, A, 0);
        });
        edge("Throws `IllegalArgumentException` if key is none", h -> {
            h.put(0, A, ONE);
            h.rule(0, 0, 2);
            h.pass(1);
            refusesEach(h, INDEX, SOME_NOT_KEYS, 1, "ask", 0, A, 1);
        });
        edge("Throws `IllegalStateException` if it is no object, is not cold, or was asked for, and that is not over", h -> {
            h.put(0, A, ONE);
            h.delete(0, A);
            h.rule(0, 1, 1);
            h.rule(0, 2, 2);
            refuses(h, STATE, "ask", 0, A, 1);
            h.pass(1);
            refuses(h, STATE, "ask", 0, A, 1);
            h.pass(1);
            refuses(h, STATE, "ask", 0, A, 2);
            is(h.ask(0, A, 1), 4);
            refuses(h, STATE, "ask", 0, A, 1);
            h.pass(2);
            refuses(h, STATE, "ask", 0, A, 1);
            h.pass(2);
            refuses(h, STATE, "ask", 0, A, 1);
            is(h.read(0, A, 1, 0), 1);
            h.pass(1);
            is(h.ask(0, A, 1), 9);
        });
    }
}
