/** Regions: what is kept and followed, what is thrown, the constants. */
final class RegionEdges extends Edges {
    RegionEdges(Check check, Document document) {
        super(check, document);
    }

    @Override
    void all() {
        under("Regions");
        kept();
        followed();
        stays();
        changesNothing();
        firstOfTheClause();
        kindsOfExceptions();
        constants();
    }

    private void kept() {
        edge("What is put or deleted in a region is kept for the other one, in order: the key, the number, the day, and "
                + "the bytes.", h -> {
            is(h.behind(0), 0);
            h.put(0, A, new int[] {1, 2, 3});
            is(h.delete(0, A), 2);
            is(h.delete(0, A), 0);
            h.bytes(4);
            is(h.put(0, A, 1), 0);
            is(h.put(0, B, 0), 3);
            refuses(h, STATE, "put", 0, B, -1);
            h.upload(0, DDD);
            h.bytes(5, 6);
            h.piece(0, 1);
            is(h.behind(0), 3);
            h.pass(3);
            h.finish(0, false);
            is(h.behind(0), 4);
            is(h.behind(1), 0);
            h.drop(0, A, 1);
            h.pass(1);
            is(h.follow(0, 1), 1);
            is(h.versions(1, A), "1");
            is(h.read(1, A, 1), "1 2 3 -1");
            is(h.about(1, A, 1, 3), 0);
            is(h.follow(0, 1), 1);
            is(h.versions(1, A), "1 2");
            is(h.about(1, A, 2, 5), 1);
            is(h.follow(0, 99), 2);
            is(h.read(1, B, 3), "4 -1");
            is(h.about(1, DDD, 4, 3), 3);
            is(h.read(1, DDD, 4), "5 6 -1");
            is(h.behind(0), 0);
        });
        edge("What has followed is not kept again.", h -> {
            h.put(0, A, ONE);
            h.delete(0, A);
            h.put(1, B, ONE);
            is(h.follow(0, 99), 2);
            is(h.behind(1), 1);
            is(h.follow(1, 99), 1);
            is(h.behind(0), 0);
            is(h.behind(1), 0);
            is(h.follow(0, 99) + h.follow(1, 99), 0);
        });
        edge("Locks, drops, classes do not follow.", h -> {
            h.rule(0, 0, 2);
            h.put(0, A, ONE);
            h.put(0, A, new int[] {2});
            h.lock(0, A, 1, 9);
            h.pass(1);
            is(h.about(0, A, 1, 2), 2);
            is(h.follow(0, 1), 1);
            is(h.about(1, A, 1, 2), 0);
            is(h.about(1, A, 1, 4), -1);
            is(h.read(1, A, 1, 0), 1);
            h.lock(0, A, 2, 0);
            h.drop(0, A, 2);
            is(h.behind(0), 1);
            is(h.follow(0, 99), 1);
            h.lock(0, A, 1, 99);
            is(h.about(1, A, 1, 4), -1);
            is(h.versions(1, A), "1 2");
            is(h.about(1, A, 2, 2), 0);
            is(h.drop(1, A, 1), 1);
            is(h.versions(0, A), "1");
            is(h.follow(1, 99), 0);
        });
    }

    private void followed() {
        edge("To follow is to take the first of these: if the other region has that number for that key, or had it, "
                + "nothing;", h -> {
            h.put(0, A, ONE);
            h.put(0, B, ONE);
            is(h.follow(0, 1), 1);
            is(h.versions(1, A), "1");
            is(h.versions(1, B), "");
            h.drop(1, A, 1);
            is(h.follow(0, 1), 1);
            is(h.versions(1, A), "");
            is(h.versions(1, B), "2");
            is(h.follow(1, 99), 0);
            is(count(h, 1, 0), 1);
        });
        edge("otherwise it has the version, by its number, of the class 0, not locked.", h -> {
            h.put(0, A, ONE);
            h.pass(1);
            h.put(1, A, new int[] {2});
            h.put(0, A, new int[] {3});
            h.put(1, A, new int[] {4});
            h.lock(0, A, 1, 99);
            h.follow(0, 1);
            is(h.versions(1, A), "1 2 4");
            h.follow(0, 1);
            is(h.versions(1, A), "1 2 3 4");
            is(h.read(1, A, 0), "4 -1");
            is(h.read(1, A, 3), "3 -1");
            is(h.about(1, A, 1, 2), 0);
            is(h.about(1, A, 1, 4), -1);
            is(h.drop(1, A, 1), 3);
        });
    }

    private void stays() {
        edge("If there are 40 versions,", h -> {
            fillVersions(h, 1, A, 39);
            h.put(0, B, ONE);
            h.delete(0, B);
            h.put(0, C, ONE);
            is(h.follow(0, 99), 1);
            is(h.behind(0), 2);
            is(h.follow(0, 99), 0);
            is(h.behind(0), 2);
            h.drop(1, A, 1);
            is(h.follow(0, 99), 1);
            is(h.versions(1, B), "40 41");
            h.drop(1, A, 2);
            is(h.follow(0, 99), 1);
            is(h.follow(0, 99), 0);
        });
        edge("or, for an object, fewer than 3 nodes are up,", h -> {
            h.put(0, A, ONE);
            h.delete(0, A);
            h.put(0, A, ONE);
            h.lose(1, 0, 1, 2);
            is(h.follow(0, 1), 1);
            h.node(1, 3, false);
            is(h.follow(0, 99), 1);
            is(h.versions(1, A), "1 2");
            is(h.behind(0), 1);
            is(h.follow(0, 99), 0);
            h.lose(1, 4, 5);
            is(h.follow(0, 99), 0);
            h.node(1, 0, true);
            h.node(1, 2, true);
            is(h.follow(0, 99), 0);
            h.node(1, 4, true);
            is(h.follow(0, 99), 1);
            is(h.nodes(1, 0), "2 4 0 -1 -1");
        });
        edge("or it would be more than 90 parts ever,", h -> {
            fillParts(h, 1, 89);
            h.put(0, A, join(bytesOfPart(89), bytesOfPart(0), bytesOfPart(89)));
            h.put(0, A, bytesOfPart(0));
            h.delete(0, A);
            h.put(0, A, bytesOfPart(90));
            is(h.follow(0, 99), 3);
            is(h.behind(0), 1);
            is(h.follow(0, 99), 0);
            h.rot(1, 0, 0, 1, 2);
            h.put(1, B, bytesOfPart(0));
            is(goodShards(h, 1, 0), 5);
        });
        edge("or it would be more than 90 parts ever,", h -> {
            fillParts(h, 1, 89);
            h.put(0, A, join(bytesOfPart(89), bytesOfPart(90)));
            is(h.follow(0, 99), 0);
            is(h.behind(0), 1);
            is(h.versions(1, A), "");
            refuses(h, INDEX, "partIs", 1, 89, 0);
            h.put(1, B, bytesOfPart(89));
            is(h.follow(0, 99), 0);
        });
        edge("it stays the first one, and that is all.", h -> {
            h.lose(1, 0, 1, 2, 3);
            h.put(0, A, ONE);
            h.delete(0, A);
            h.put(0, B, ONE);
            h.delete(0, B);
            is(h.follow(0, 99), 0);
            is(h.behind(0), 4);
            is(h.versions(1, A) + h.versions(1, B), "");
            refuses(h, INDEX, "partIs", 1, 0, 0);
            h.node(1, 0, true);
            is(h.follow(0, 99), 4);
            is(h.versions(1, A), "1 2");
        });
    }

    /** A harbour in which much stands, so that much could be changed. */
    private static void fill(Harbour h) {
        h.put(0, A, new int[] {1, 2, 3, 4});
        h.put(1, AA, new int[] {1, 2});
        h.delete(0, A);
        h.put(0, B, new int[] {7, 7, 7});
        h.rule(A, 1, 2);
        h.rule(0, 5, 1);
        h.pass(2);
        h.lock(0, B, 4, 9);
        h.ask(0, A, 1);
        h.upload(0, AB);
        h.bytes(4, 4);
        h.piece(0, 2);
        h.upload(1, A);
        h.finish(1, true);
        h.rot(0, 0, 0, 1);
        h.lose(0, 0, 1, 2, 3);
        h.drop(0, A, 3);
        h.put(1, B, ONE);
        h.drop(1, B, 5);
        h.bytes(5, 6, 7);
    }

    private void changesNothing() {
        edge("When a call throws, nothing has changed;", h -> {
            fill(h);
            refuses(h, ARGUMENT, "draft", 16, 1, 1);
            refuses(h, STATE, "draft", 1, 1, 38);
            refuses(h, INDEX, "put", 2, A, -1);
            refuses(h, ARGUMENT, "put", 0, 5, -1);
            refuses(h, STATE, "put", 0, AAA, -1);
            refuses(h, STATE, "put", 0, B, 4);
            refuses(h, INDEX, "delete", 2, A);
            refuses(h, ARGUMENT, "delete", 0, 5);
            refuses(h, INDEX, "drop", 0, A, 4);
            refuses(h, STATE, "drop", 0, B, 4);
            refuses(h, INDEX, "lock", 0, A, 9, 20);
            refuses(h, ARGUMENT, "lock", 0, B, 4, 1000);
            refuses(h, STATE, "lock", 0, B, 4, 8);
            refuses(h, INDEX, "read", 0, A, 1, -1);
            refuses(h, ARGUMENT, "read", 0, 5, 0, 0);
            refuses(h, INDEX, "ask", 0, A, 4);
            refuses(h, STATE, "ask", 0, A, 1);
            refuses(h, STATE, "ask", 0, B, 4);
            refuses(h, INDEX, "upload", 2, A);
            refuses(h, ARGUMENT, "upload", 0, 5);
            refuses(h, INDEX, "piece", 1, 1);
            refuses(h, ARGUMENT, "piece", 0, 10);
            refuses(h, INDEX, "finish", 1, 1);
            refuses(h, STATE, "finish", 0, 0);
        });
        edge("When a call throws, nothing has changed;", h -> {
            fill(h);
            refuses(h, INDEX, "list", 0, 0, 0, -1);
            refuses(h, ARGUMENT, "list", 0, 5, 0, 0);
            refuses(h, INDEX, "version", 0, A, -1);
            refuses(h, ARGUMENT, "version", 0, 5, 0);
            refuses(h, INDEX, "about", 0, A, 4, 0);
            refuses(h, ARGUMENT, "about", 0, A, 1, 6);
            refuses(h, INDEX, "part", 0, A, 1, -1);
            refuses(h, INDEX, "partIs", 1, 2, 0);
            refuses(h, ARGUMENT, "partIs", 0, 0, 8);
            refuses(h, INDEX, "node", 0, 6, 0);
            refuses(h, STATE, "node", 0, 0, 0);
            refuses(h, STATE, "node", 0, 4, 1);
            refuses(h, INDEX, "rot", 1, 2, 0);
            refuses(h, ARGUMENT, "rot", 0, 0, 5);
            refuses(h, INDEX, "mend", 2, 1);
            refuses(h, ARGUMENT, "mend", 0, 100);
            refuses(h, INDEX, "sweep", 2, 1);
            refuses(h, ARGUMENT, "sweep", 1, 100);
            refuses(h, ARGUMENT, "rule", 0, 0, 4);
            refuses(h, ARGUMENT, "pass", 31);
            refuses(h, ARGUMENT, "cost", 3);
            refuses(h, INDEX, "follow", 2, 1);
            refuses(h, ARGUMENT, "follow", 0, 100);
            refuses(h, INDEX, "behind", 2);
            refuses(h, INDEX, "agrees", 2);
            refuses(h, ARGUMENT, "letter", 5, 0);
            refuses(h, INDEX, "letter", A, -1);
        });
    }

    private void firstOfTheClause() {
        edge("of several exceptions it is the first one of the throws clause.", h -> {
            refuses(h, INDEX, "put", 2, 0, -2);
            refuses(h, ARGUMENT, "put", 0, 0, -2);
            refuses(h, ARGUMENT, "put", 0, A, -2);
            refuses(h, INDEX, "read", 2, 5, 0, 0);
            refuses(h, INDEX, "read", 0, 5, 0, -1);
            refuses(h, INDEX, "list", 2, 5, 5, 0);
            refuses(h, INDEX, "list", 0, 5, 5, -1);
            refuses(h, INDEX, "version", 2, 5, 0);
            refuses(h, INDEX, "version", 0, 5, -1);
            refuses(h, INDEX, "piece", 0, 0);
            refuses(h, INDEX, "rot", 0, 0, 5);
            refuses(h, INDEX, "partIs", 0, 0, 8);
            refuses(h, INDEX, "mend", 2, 0);
            refuses(h, INDEX, "sweep", 2, 0);
            refuses(h, INDEX, "follow", 2, 0);
            refuses(h, INDEX, "lock", 0, A, 1, 1000);
            refuses(h, INDEX, "about", 0, A, 1, 6);
            refuses(h, INDEX, "part", 0, 5, 1, -1);
            refuses(h, INDEX, "upload", 2, 5);
            refuses(h, INDEX, "delete", 2, 5);
            refuses(h, ARGUMENT, "letter", 5, -1);
        });
        edge("of several exceptions it is the first one of the throws clause.", h -> {
            h.draft(1, 1, 40);
            refuses(h, ARGUMENT, "draft", 16, 0, 1);
            h.put(0, A, -1);
            h.lock(0, A, 1, 9);
            refuses(h, ARGUMENT, "lock", 0, A, 1, -1);
            refuses(h, INDEX, "lock", 0, A, 2, -1);
            refuses(h, INDEX, "drop", 0, 5, 1);
            refuses(h, INDEX, "ask", 0, 5, 1);
            for (int i = 0; i < 12; i++) {
                h.upload(0, A);
            }
            refuses(h, INDEX, "upload", 2, A);
            refuses(h, ARGUMENT, "upload", 0, 5);
            refuses(h, ARGUMENT, "piece", 0, 0);
            refuses(h, INDEX, "piece", 12, 0);
            refuses(h, INDEX, "finish", 12, 0);
            refuses(h, INDEX, "node", 2, 0, 1);
            refuses(h, INDEX, "node", 0, 6, 1);
            for (int i = 0; i < 6; i++) {
                h.rule(0, 99, 1);
            }
            refuses(h, ARGUMENT, "rule", 5, 0, 1);
            refuses(h, ARGUMENT, "rule", 0, 0, 0);
        });
        edge("of several exceptions it is the first one of the throws clause.", h -> {
            fillVersions(h, 0, A, 40);
            h.bytes(1);
            refuses(h, INDEX, "put", 2, A, -1);
            refuses(h, ARGUMENT, "put", 0, 5, -1);
            refuses(h, ARGUMENT, "put", 0, A, -2);
            refuses(h, INDEX, "delete", 2, A);
            refuses(h, ARGUMENT, "delete", 0, 5);
        });
    }

    private void kindsOfExceptions() {
        edge("IndexOutOfBoundsException: there is no such region, node, part, version (a key that is none has none) or "
                + "upload.", h -> {
            h.put(0, A, ONE);
            h.put(0, B, ONE);
            h.put(1, A, ONE);
            h.upload(0, A);
            refusesEach(h, INDEX, NOT_REGIONS, 0, "about", 0, A, 1, 0);
            refusesEach(h, INDEX, new int[] {MIN, -1, 6, MAX}, 1, "node", 0, 0, 0);
            refusesEach(h, INDEX, new int[] {MIN, -1, 1, 89, 90, MAX}, 1, "partIs", 0, 0, 0);
            refusesEach(h, INDEX, new int[] {MIN, -1, 0, 2, 3, 4, 201, MAX}, 2, "about", 0, A, 1, 0);
            refusesEach(h, INDEX, SOME_NOT_KEYS, 1, "about", 0, A, 1, 0);
            refusesEach(h, INDEX, new int[] {MIN, -1, 1, 11, 12, MAX}, 0, "finish", 0, 1);
            is(h.about(0, A, 1, 0), 1);
            is(h.finish(0, true), 0);
        });
        edge("IllegalArgumentException: another argument is out of its range.", h -> {
            refusesOutside(h, ARGUMENT, 1, 99, 1, "mend", 0, 1);
            is(h.mend(0, 1), 0);
            is(h.mend(0, 99), 0);
        });
        edge("IllegalStateException: as told; FULL: fewer than 3 nodes of the region are up,", h -> {
            h.lose(0, 5, 4, 3);
            h.upload(0, A);
            is(h.put(0, A, ONE), 1);
            h.node(0, 2, false);
            h.bytes(1);
            h.piece(0, 1);
            h.bytes(1);
            refuses(h, STATE, "put", 0, A, -1);
            refuses(h, STATE, "put", 0, A, 1);
            refuses(h, STATE, "finish", 0, 0);
            is(h.put(0, A, 0), 0);
            is(h.put(1, A, -1), 2);
        });
        edge("it would be more than 40 versions of it,", h -> {
            fillVersions(h, 1, A, 39);
            is(h.put(1, A, ONE), 40);
            h.bytes(1);
            refuses(h, STATE, "put", 1, A, -1);
            refuses(h, STATE, "put", 1, A, 40);
            is(h.put(0, A, -1), 41);
        });
        edge("it would be more than 40 versions of it, 200 ever in both, or 90 parts of it ever.", h -> {
            fillParts(h, 0, 90);
            for (int number = 7; number <= 39; number++) {
                is(h.put(0, A, bytesOfPart(0)), number);
            }
            h.bytes(bytesOfPart(90));
            refuses(h, STATE, "put", 0, B, -1);
            h.lose(0, 1, 2, 3, 4);
            refuses(h, STATE, "put", 0, B, -1);
            h.clear();
            h.bytes(bytesOfPart(0));
            refuses(h, STATE, "put", 0, B, -1);
            h.node(0, 1, true);
            is(h.put(0, B, -1), 40);
        });
        edge("200 ever in both,", h -> {
            fillNumbers(h, 198);
            is(h.put(1, B, ONE), 199);
            is(h.put(0, A, ONE), 200);
            h.drop(0, A, 200);
            h.bytes(1);
            refuses(h, STATE, "put", 0, A, -1);
            refuses(h, STATE, "put", 1, A, -1);
        });
        edge("or 90 parts of it ever.", h -> {
            fillParts(h, 1, 90);
            h.bytes(bytesOfPart(90));
            refuses(h, STATE, "put", 1, A, -1);
            is(h.put(0, A, -1) > 0, true);
            is(h.put(1, A, bytesOfPart(89)) > 0, true);
        });
    }

    private void constants() {
        edge("The constants: `NONE = -1`: There is none.", h -> {
            h.put(0, A, ONE);
            is(BlobHarbor.NONE, -1);
            is(h.read(0, A, 0, 1), BlobHarbor.NONE);
        });
        edge("`GONE = -2`: It is deleted, or never was.", h -> {
            is(BlobHarbor.GONE, -2);
            is(h.read(0, A, 0, 0), BlobHarbor.GONE);
            h.put(0, A, ONE);
            is(h.read(0, A, 0, 0), 1);
            h.delete(0, A);
            is(h.read(0, A, 0, 0), BlobHarbor.GONE);
        });
        edge("`COLD = -3`: It is cold.", h -> {
            h.put(0, A, ONE);
            h.rule(0, 0, 2);
            h.pass(1);
            is(BlobHarbor.COLD, -3);
            is(h.read(0, A, 0, 0), BlobHarbor.COLD);
        });
        edge("`LOST = -4`: A part cannot be read.", h -> {
            h.put(0, A, ONE);
            h.rot(0, 0, 0, 1, 2);
            is(BlobHarbor.LOST, -4);
            is(h.read(0, A, 0, 0), BlobHarbor.LOST);
        });
        noEdge("Ahead of the calls `draft`, `clear`, `put`, `delete`, `drop`, `lock`, `read`, `ask` the interface says: "
                + "---- the draft, objects. Ahead of the calls `upload`, `piece`, `finish` the interface says: ---- "
                + "uploads. Ahead of the calls `list`, `version`, `about`, `part` the interface says: ---- lists, "
                + "versions. Ahead of the calls `partIs`, `node`, `rot`, `mend`, `sweep` the interface says: ---- parts, "
                + "nodes. Ahead of the calls `rule`, `pass`, `cost`, `follow`, `behind`, `areAlike`, `agrees`, `letter` "
                + "the interface says: ---- days, regions.", "comments of the face");
    }
}
