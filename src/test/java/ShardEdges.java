import java.util.List;

/** Terms: shards and nodes, and mending. */
final class ShardEdges extends Edges {
    ShardEdges(Check check, Document document) {
        super(check, document);
    }

    @Override
    void all() {
        under("Terms");
        noEdge("Shards, nodes", "a heading");
        coding();
        nodes();
        reading();
        mendedParts();
        mendedShards();
    }

    private void coding() {
        edge("A part, filled up to 6 bytes with 0, is coded into five shards of two bytes: 0, 1, 2 are its bytes in "
                + "order; 3 the sum of these three, 4 the sum of shard 0, 2 times shard 1, and 4 times shard 2, byte by "
                + "byte, in the field of 16: to add is to take bits that are unlike, to multiply as polynomials over "
                + "bits, less 19 as often as needed (x to the power of 4 is x and 1).", h -> {
            int[][] parts = {{15}, {0, 15}, {15, 14, 2}, {1, 0, 8, 15}, {15, 1, 8, 13, 4}, {15, 14, 13, 11, 7, 15},
                {3, 7, 11, 13, 2, 6}, {8, 1, 9, 15, 6, 1}};
            for (int i = 0; i < parts.length; i++) {
                withoutTwo(parts[i]);
            }
        });
    }

    /** Whichever two shards are lost, and mended from the other three, the bytes are the same. */
    private void withoutTwo(int[] bytes) {
        for (int one = 0; one < 5; one++) {
            for (int other = 0; other < one; other++) {
                Harbour h = new Harbour();
                h.put(0, A, bytes);
                String due = h.read(0, A, 1);
                h.rot(0, 0, one, other);
                is(h.read(0, A, 1), due);
                is(h.agrees(0), true);
                is(h.mend(0, 99), 2);
                h.rot(0, 0, (one + 1) % 5, (other + 3) % 5);
                is(h.read(0, A, 1), due);
                is(h.agrees(0), true);
            }
        }
    }

    private void nodes() {
        edge("A region has the nodes 0 to 5, up at first.", h -> {
            for (int region = 0; region < 2; region++) {
                refusesOutside(h, INDEX, 0, 5, 1, "node", region, 0, 0);
                for (int node = 0; node <= 5; node++) {
                    refuses(h, STATE, "node", region, node, 1);
                }
            }
            for (int node = 0; node <= 5; node++) {
                is(h.node(0, node, false), 0);
                is(h.node(1, node, false), 0);
            }
        });
        edge("For a part with the number p its order of nodes is by what 7 p + 13 n + 5 p n, n being the node, leaves "
                + "by 31, the greater first, of the same the lower node first.", h -> {
            is(order(0).toString(), "[2, 4, 1, 3, 5, 0]");
            is(order(16).toString(), "[0, 1, 2, 3, 4, 5]");
            fillParts(h, 0, 90);
            for (int part = 0; part < 90; part++) {
                is(h.partIs(0, part, 3), order(part).get(0));
                is(h.partIs(0, part, 7), order(part).get(4));
            }
            for (int part = 14; part < 18; part++) {
                is(h.nodes(0, part), firstNodes(part, List.of(0, 1, 2, 3, 4, 5)));
            }
        });
        edge("When a part comes, its shards (those that it has are gone) go to the nodes that are up, in that order, "
                + "one each, by rising numbers, as long as there are such;", h -> {
            h.put(0, A, ONE);
            is(h.nodes(0, 0), "2 4 1 3 5");
            h.node(0, 2, false);
            h.put(0, A, new int[] {2});
            is(h.nodes(0, 1), firstNodes(1, List.of(0, 1, 3, 4, 5)));
            h.node(0, 4, false);
            h.put(0, A, new int[] {3});
            is(h.nodes(0, 2), firstNodes(2, List.of(0, 1, 3, 5)));
            h.node(0, 1, false);
            h.put(0, A, new int[] {4});
            is(h.nodes(0, 3), firstNodes(3, List.of(0, 3, 5)));
            h.put(0, A, ONE);
            is(h.nodes(0, 0), "3 5 0 -1 -1");
            is(goodShards(h, 0, 0), 3);
            h.node(0, 4, true);
            h.rot(0, 0, 1);
            h.put(0, A, ONE);
            is(h.nodes(0, 0), "4 3 5 0 -1");
            is(goodShards(h, 0, 0), 4);
        });
        edge("with fewer than 3 nodes that are up no object can be stored.", h -> {
            h.lose(0, 0, 2, 4);
            is(h.put(0, A, ONE), 1);
            h.upload(0, B);
            h.bytes(1);
            h.piece(0, 1);
            h.node(0, 1, false);
            h.bytes(1);
            refuses(h, STATE, "put", 0, A, -1);
            refuses(h, STATE, "finish", 0, 0);
            is(h.put(1, A, -1), 2);
            is(h.follow(1, 1), 0);
            h.lose(0, 3, 5);
            refuses(h, STATE, "finish", 0, 0);
            for (int node : new int[] {5, 4, 0}) {
                is(h.node(0, node, true), 0);
            }
            is(h.finish(0, false), 3);
            is(h.follow(1, 1), 1);
        });
        edge("A node that is lost is not up, and its shards are gone; it can come back, empty.", h -> {
            h.put(0, A, ONE);
            is(h.node(0, 2, false), 1);
            refuses(h, STATE, "node", 0, 2, 0);
            is(h.nodes(0, 0), "-1 4 1 3 5");
            is(goodShards(h, 0, 0), 4);
            h.put(0, A, new int[] {2});
            is(h.nodes(0, 1), "3 1 4 0 5");
            is(h.node(0, 2, true), 0);
            refuses(h, STATE, "node", 0, 2, 1);
            is(h.nodes(0, 0), "-1 4 1 3 5");
            is(h.node(0, 2, false), 0);
        });
    }

    /** The nodes of the five shards, with these nodes up. */
    private static String firstNodes(int part, List<Integer> up) {
        StringBuilder all = new StringBuilder();
        int placed = 0;
        for (int node : order(part)) {
            if (up.contains(node) && placed < 5) {
                all.append(node).append(' ');
                placed++;
            }
        }
        for (; placed < 5; placed++) {
            all.append("-1 ");
        }
        return all.toString().trim();
    }

    private void reading() {
        edge("A shard can be rotten; that is seen when it is read, and it is not used.", h -> {
            int[] bytes = {15, 1, 8, 13, 4, 8};
            h.put(0, A, bytes);
            String due = h.read(0, A, 1);
            is(h.rot(0, 0, 0), true);
            is(h.read(0, A, 1), due);
            is(h.rot(0, 0, 4), true);
            is(h.read(0, A, 1), due);
            is(goodShards(h, 0, 0), 3);
            is(h.nodes(0, 0), "2 4 1 3 5");
            is(h.rot(0, 0, 2), true);
            is(h.read(0, A, 1, 2), -4);
        });
        edge("A part can be read, if 3 of its shards are there and good; by the lowest three of these it is found "
                + "again.", h -> {
            int[] bytes = {5, 9, 14, 3, 8, 8};
            h.put(0, A, bytes);
            String due = h.read(0, A, 1);
            h.node(0, 4, false);
            h.rot(0, 0, 2);
            is(goodShards(h, 0, 0), 3);
            is(h.read(0, A, 1), due);
            h.node(0, 5, false);
            is(goodShards(h, 0, 0), 2);
            is(h.read(0, A, 1), "-4");
            for (int node = 0; node < 4; node++) {
                h.node(0, node, false);
            }
            is(goodShards(h, 0, 0), 0);
            is(h.read(0, A, 1), "-4");
        });
    }

    private void mendedParts() {
        edge("To mend a shard: of all parts that can be read, and of which not all five are there and good, that with "
                + "the fewest such, of several the lowest, for which it is possible;", h -> {
            for (int b = 0; b < 5; b++) {
                h.put(0, A, new int[] {b});
            }
            is(h.mend(0, 1), 0);
            h.rot(0, 0, 4);
            h.rot(0, 1, 0, 1);
            h.rot(0, 2, 3, 4);
            h.rot(0, 3, 0, 1, 2);
            int[][] due = {{4, 4, 3, 2, 5}, {4, 4, 4, 2, 5}, {5, 4, 4, 2, 5}, {5, 5, 4, 2, 5}, {5, 5, 5, 2, 5}};
            for (int[] good : due) {
                is(h.mend(0, 1), 1);
                for (int part = 0; part < 5; part++) {
                    is(goodShards(h, 0, part), good[part]);
                }
            }
            is(h.mend(0, 1), 0);
            is(goodShards(h, 0, 3), 2);
        });
        edge("without one the part is passed over for the next shard, then for the next part.", h -> {
            h.node(0, 0, false);
            h.put(0, A, ONE);
            h.put(0, A, new int[] {2});
            h.node(0, 2, false);
            is(h.nodes(0, 0), "-1 4 1 3 5");
            is(h.nodes(0, 1), "3 1 4 -1 5");
            is(h.mend(0, 99), 0);
            h.rot(0, 0, 3);
            h.rot(0, 1, 4);
            is(h.mend(0, 1), 1);
            is(goodShards(h, 0, 0), 4);
            is(h.nodes(0, 0), "-1 4 1 3 5");
            is(h.mend(0, 1), 1);
            is(goodShards(h, 0, 1), 4);
            is(h.mend(0, 1), 0);
        });
    }

    private void mendedShards() {
        edge("of that the lowest shard that is not: a rotten one becomes good where it is;", h -> {
            h.put(0, A, ONE);
            h.rot(0, 0, 3, 1);
            is(h.mend(0, 1), 1);
            is(h.rot(0, 0, 3), false);
            is(h.rot(0, 0, 1), true);
            is(h.mend(0, 99), 2);
            is(h.nodes(0, 0), "2 4 1 3 5");
            h.node(0, 2, false);
            h.rot(0, 0, 4);
            is(h.mend(0, 1), 1);
            is(h.nodes(0, 0), "0 4 1 3 5");
            is(goodShards(h, 0, 0), 4);
            is(h.mend(0, 1), 1);
            is(h.nodes(0, 0), "0 4 1 3 5");
            is(goodShards(h, 0, 0), 5);
        });
        edge("one that is not there is put onto the first node in its order that is up and has none of the part;", h -> {
            h.put(0, A, ONE);
            h.node(0, 2, false);
            h.rot(0, 0, 1);
            is(h.nodes(0, 0), "-1 4 1 3 5");
            is(h.mend(0, 1), 1);
            is(h.nodes(0, 0), "0 4 1 3 5");
            h.node(0, 4, false);
            is(h.mend(0, 1), 0);
            h.node(0, 2, true);
            is(h.mend(0, 1), 1);
            is(h.nodes(0, 0), "0 2 1 3 5");
            h.lose(0, 3, 0);
            h.node(0, 0, true);
            h.node(0, 4, true);
            is(h.mend(0, 1), 1);
            is(h.nodes(0, 0), "4 2 1 -1 5");
            is(h.mend(0, 1), 1);
            is(h.nodes(0, 0), "4 2 1 0 5");
            is(h.mend(0, 1), 0);
            is(goodShards(h, 0, 0), 5);
        });
    }
}
