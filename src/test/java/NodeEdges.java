/** Promises 17 to 21: parts, nodes. */
final class NodeEdges extends Edges {
    private static final int[] NOT_PARTS = {MIN, -1, 1, 89, 90, MAX};

    NodeEdges(Check check, Document document) {
        super(check, document);
    }

    @Override
    void all() {
        partIs();
        node();
        rot();
        mend();
        sweep();
    }

    private void partIs() {
        under("Promise 17");
        edge("Returns what a part is.", h -> {
            h.put(0, A, new int[] {1, 2, 1, 2});
            h.node(0, 5, false);
            h.rot(0, 0, 1);
            int[] due = {2, 2, 3, 2, 4, 1, 3, -1};
            for (int what = 0; what <= 7; what++) {
                is(h.partIs(0, 0, what), due[what]);
            }
        });
        edge("- `part`: a part that is not swept", h -> {
            refusesEach(h, INDEX, new int[] {-1, 0, 1}, 1, "partIs", 0, 0, 0);
            h.put(0, A, ONE);
            h.put(0, B, new int[] {2});
            h.drop(0, A, 1);
            is(h.partIs(0, 0, 0), 0);
            h.sweep(0, 1);
            refuses(h, INDEX, "partIs", 0, 0, 0);
            is(h.partIs(0, 1, 0), 1);
            refuses(h, INDEX, "partIs", 0, 2, 0);
        });
        edge("- `what`: 0 its count;", h -> {
            h.put(0, A, times(40, 0));
            is(h.partIs(0, 0, 0), 20);
            h.drop(0, A, 1);
            is(h.partIs(0, 0, 0), 0);
        });
        edge("1 how many bytes;", h -> {
            h.put(0, A, times(7, 1));
            is(h.partIs(0, 0, 1), 6);
            is(h.partIs(0, 1, 1), 1);
        });
        edge("2 how many shards are there and good;", h -> {
            h.put(0, A, ONE);
            is(h.partIs(0, 0, 2), 5);
            h.rot(0, 0, 0);
            is(h.partIs(0, 0, 2), 4);
            h.node(0, 2, false);
            is(h.partIs(0, 0, 2), 4);
            h.lose(0, 0, 1, 3, 4);
            is(h.partIs(0, 0, 2), 1);
            h.node(0, 5, false);
            is(h.partIs(0, 0, 2), 0);
        });
        edge("3 to 7 the node of the shards 0 to 4, NONE if it is not there", h -> {
            h.lose(0, 0, 1);
            h.put(0, A, ONE);
            is(h.nodes(0, 0), "2 4 3 5 -1");
            h.rot(0, 0, 0);
            is(h.partIs(0, 0, 3), 2);
            h.node(0, 2, false);
            is(h.nodes(0, 0), "-1 4 3 5 -1");
        });
        edge("Throws `IndexOutOfBoundsException` as told", h -> {
            h.put(0, A, ONE);
            refusesRegions(h, "partIs", 0, 0, 8);
            refusesEach(h, INDEX, NOT_PARTS, 1, "partIs", 0, 0, 8);
            refuses(h, INDEX, "partIs", 1, 0, 0);
        });
        edge("Throws `IllegalArgumentException` if what is out of range", h -> {
            h.put(0, A, ONE);
            refusesOutside(h, ARGUMENT, 0, 7, 2, "partIs", 0, 0, 0);
        });
    }

    private void node() {
        under("Promise 18");
        edge("Loses a node, or lets it come back.", h -> {
            h.node(0, 5, false);
            refuses(h, STATE, "node", 0, 5, 0);
            h.put(0, A, ONE);
            is(h.nodes(0, 0), "2 4 1 3 0");
            h.node(0, 5, true);
            refuses(h, STATE, "node", 0, 5, 1);
            h.put(0, A, new int[] {2});
            is(h.nodes(0, 1), "3 1 4 2 0");
            h.put(0, A, new int[] {3});
            h.put(0, A, new int[] {4});
            is(h.partIs(0, 3, 3), order(3).get(0));
            h.put(1, A, ONE);
            is(h.nodes(1, 0), "2 4 1 3 5");
        });
        edge("- `node`: 0 to 5", h -> {
            refusesOutside(h, INDEX, 0, 5, 1, "node", 0, 0, 0);
            refusesOutside(h, INDEX, 0, 5, 1, "node", 1, 0, 1);
            is(h.node(0, 0, false), 0);
            is(h.node(0, 5, false), 0);
        });
        edge("Returns how many shards are gone by that.", h -> {
            is(h.node(0, 0, false), 0);
            is(h.node(0, 0, true), 0);
            h.put(0, A, ONE);
            h.put(0, B, new int[] {2});
            h.rot(0, 0, 0);
            h.drop(0, B, 2);
            is(h.node(0, 2, false), 2);
            is(h.node(0, 2, true), 0);
            is(h.node(0, 2, false), 0);
            is(h.node(0, 5, false), 1);
            is(h.node(0, 0, false), 1);
            h.sweep(0, 1);
            is(h.node(0, 1, false), 1);
            is(h.node(1, 1, false), 0);
        });
        edge("Throws `IndexOutOfBoundsException` as told", h -> {
            refusesRegions(h, "node", 0, 0, 0);
            refusesRegions(h, "node", 0, 0, 1);
            refuses(h, INDEX, "node", 0, -1, 0);
            refuses(h, INDEX, "node", 0, 6, 1);
        });
        edge("Throws `IllegalStateException` if it is so already", h -> {
            refuses(h, STATE, "node", 0, 0, 1);
            is(h.node(0, 0, false), 0);
            refuses(h, STATE, "node", 0, 0, 0);
            refuses(h, STATE, "node", 1, 0, 1);
            is(h.node(0, 0, true), 0);
            refuses(h, STATE, "node", 0, 0, 1);
        });
    }

    private void rot() {
        under("Promise 19");
        edge("Lets a shard rot.", h -> {
            h.put(0, A, ONE);
            h.put(0, B, new int[] {2});
            h.rot(0, 0, 4);
            is(goodShards(h, 0, 0), 4);
            is(goodShards(h, 0, 1), 5);
            h.rot(0, 0, 0, 2);
            is(h.read(0, A, 0, 0), -4);
            is(h.read(0, B, 0, 0), 2);
        });
        edge("- `part`: a part that is not swept", h -> {
            refusesEach(h, INDEX, new int[] {-1, 0, 1}, 1, "rot", 0, 0, 0);
            h.put(0, A, ONE);
            h.put(0, B, new int[] {2});
            h.drop(0, A, 1);
            is(h.rot(0, 0, 0), true);
            h.sweep(0, 1);
            refuses(h, INDEX, "rot", 0, 0, 1);
            is(h.rot(0, 1, 0), true);
        });
        edge("- `shard`: 0 to 4", h -> {
            h.put(0, A, ONE);
            refusesOutside(h, ARGUMENT, 0, 4, 2, "rot", 0, 0, 0);
            is(h.rot(0, 0, 0), true);
            is(h.rot(0, 0, 4), true);
        });
        edge("Returns whether it was there and good.", h -> {
            h.put(0, A, ONE);
            is(h.rot(0, 0, 1), true);
            is(h.rot(0, 0, 1), false);
            is(h.mend(0, 9), 1);
            is(h.rot(0, 0, 1), true);
            h.node(0, 4, false);
            is(h.rot(0, 0, 1), false);
            is(h.mend(0, 9), 1);
            is(h.nodes(0, 0), "2 0 1 3 5");
            is(h.rot(0, 0, 1), true);
            h.node(0, 5, false);
            is(h.rot(0, 0, 4), false);
            h.node(0, 5, true);
            is(h.rot(0, 0, 4), false);
            is(goodShards(h, 0, 0), 3);
        });
        edge("Throws `IndexOutOfBoundsException` as told", h -> {
            h.put(0, A, ONE);
            refusesRegions(h, "rot", 0, 0, 5);
            refusesEach(h, INDEX, NOT_PARTS, 1, "rot", 0, 0, 5);
            refuses(h, INDEX, "rot", 1, 0, 0);
        });
        edge("Throws `IllegalArgumentException` if shard is out of range", h -> {
            h.put(0, A, ONE);
            refuses(h, ARGUMENT, "rot", 0, 0, -1);
            refuses(h, ARGUMENT, "rot", 0, 0, 5);
            is(goodShards(h, 0, 0), 5);
        });
    }

    /** 20 parts, and all of them but the last one with three good shards. */
    private static void spoil(Harbour h) {
        for (int part = 0; part < 20; part++) {
            h.put(0, A, bytesOfPart(part));
            if (part < 19) {
                h.rot(0, part, part % 5, (part + 2) % 5);
            }
        }
    }

    private void mend() {
        under("Promise 20");
        edge("Mends shards, one behind the other, as long as one can be mended.", h -> {
            h.put(0, A, ONE);
            h.put(0, A, new int[] {2});
            h.put(1, A, ONE);
            h.rot(1, 0, 0);
            h.rot(0, 0, 0, 1);
            h.rot(0, 1, 2);
            is(h.mend(0, 99), 3);
            is(goodShards(h, 0, 0), 5);
            is(goodShards(h, 0, 1), 5);
            is(h.mend(0, 99), 0);
            is(goodShards(h, 1, 0), 4);
            h.rot(0, 0, 0, 1, 2);
            h.rot(0, 1, 0);
            is(h.mend(0, 99), 1);
            is(goodShards(h, 0, 0), 2);
            h.drop(0, A, 2);
            h.rot(0, 1, 3);
            is(h.mend(0, 99), 1);
            is(goodShards(h, 0, 1), 5);
        });
        edge("- `most`: 1 to 99", h -> {
            refusesOutside(h, ARGUMENT, 1, 99, 1, "mend", 0, 1);
            spoil(h);
            is(h.mend(0, 1), 1);
            is(h.mend(0, 99), 37);
        });
        edge("- `most`: 1 to 99", h -> {
            for (int part = 0; part < 60; part++) {
                h.put(0, A, bytesOfPart(part));
                h.rot(0, part, 1, 2);
                if (part > 35) {
                    h.drop(0, A, part - 35);
                }
            }
            is(h.mend(0, 99), 99);
            is(goodShards(h, 0, 38), 5);
            is(goodShards(h, 0, 39), 4);
            is(h.mend(0, 99), 21);
        });
        edge("Returns how many were mended.", h -> {
            is(h.mend(0, 99), 0);
            spoil(h);
            is(h.mend(0, 37), 37);
            is(h.mend(0, 2), 1);
            is(h.mend(0, 2), 0);
        });
        edge("Throws `IndexOutOfBoundsException` as told", h -> {
            h.put(0, A, ONE);
            h.rot(0, 0, 0);
            refusesRegions(h, "mend", 0, 0);
            refusesRegions(h, "mend", 0, 1);
        });
        edge("Throws `IllegalArgumentException` if most is out of range", h -> {
            h.put(0, A, ONE);
            h.rot(0, 0, 0);
            refuses(h, ARGUMENT, "mend", 0, 0);
            refuses(h, ARGUMENT, "mend", 0, 100);
            is(h.mend(0, 1), 1);
        });
    }

    private void sweep() {
        under("Promise 21");
        edge("Sweeps parts with the count 0, the lowest ones first.", h -> {
            for (int part = 0; part < 5; part++) {
                h.put(0, A, bytesOfPart(part));
            }
            h.put(1, A, ONE);
            h.drop(1, A, 6);
            for (int version : new int[] {5, 2, 3}) {
                h.drop(0, A, version);
            }
            is(h.sweep(0, 1), 1);
            refuses(h, INDEX, "partIs", 0, 1, 0);
            is(count(h, 0, 2), 0);
            is(count(h, 0, 4), 0);
            is(h.sweep(0, 99), 2);
            refuses(h, INDEX, "partIs", 0, 2, 0);
            refuses(h, INDEX, "partIs", 0, 4, 0);
            is(count(h, 0, 0), 1);
            is(count(h, 0, 3), 1);
            is(count(h, 1, 0), 0);
        });
        edge("- `most`: 1 to 99", h -> {
            refusesOutside(h, ARGUMENT, 1, 99, 1, "sweep", 0, 1);
            fillParts(h, 0, 90);
            for (int version = 1; h.version(0, C, 0) != 0; version++) {
                h.drop(0, C, version);
            }
            refuses(h, ARGUMENT, "sweep", 0, 100);
            is(h.sweep(0, 1), 1);
            is(h.sweep(0, 99), 89);
            is(h.sweep(0, 99), 0);
            is(h.agrees(0), true);
        });
        edge("Returns how many were swept.", h -> {
            is(h.sweep(0, 99), 0);
            for (int part = 0; part < 4; part++) {
                h.put(0, A, bytesOfPart(part));
                h.drop(0, A, part + 1);
            }
            is(h.sweep(0, 3), 3);
            is(h.sweep(0, 3), 1);
            is(h.sweep(0, 3), 0);
        });
        edge("Throws `IndexOutOfBoundsException` as told", h -> {
            h.put(0, A, ONE);
            h.drop(0, A, 1);
            refusesRegions(h, "sweep", 0, 0);
            refusesRegions(h, "sweep", 0, 1);
        });
        edge("Throws `IllegalArgumentException` if most is out of range", h -> {
            h.put(0, A, ONE);
            h.drop(0, A, 1);
            refuses(h, ARGUMENT, "sweep", 0, 0);
            refuses(h, ARGUMENT, "sweep", 0, 100);
            is(h.sweep(0, 1), 1);
        });
    }
}
