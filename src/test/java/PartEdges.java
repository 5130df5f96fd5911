/** Terms: bytes and parts. */
final class PartEdges extends Edges {
    PartEdges(Check check, Document document) {
        super(check, document);
    }

    @Override
    void all() {
        under("Terms");
        noEdge("Bytes, parts", "a heading");
        bytes();
        cuts();
        numbers();
        counts();
        foundAgain();
    }

    private void bytes() {
        edge("A byte is 0 to 15.", h -> {
            h.draft(15, 1, 2);
            h.put(0, A, -1);
            is(h.read(0, A, 1, 0), 15);
            is(h.read(0, A, 1, 1), 0);
            h.draft(0, 15, 2);
            h.put(0, A, -1);
            is(h.read(0, A, 2, 0), 0);
            is(h.read(0, A, 2, 1), 15);
            refuses(h, ARGUMENT, "draft", -1, 0, 1);
            refuses(h, ARGUMENT, "draft", 16, 0, 1);
        });
        edge("An object has 1 to 40 bytes.", h -> {
            refuses(h, STATE, "put", 0, A, -1);
            h.draft(7, 0, 1);
            is(h.put(0, A, -1), 1);
            is(h.about(0, A, 1, 0), 1);
            is(h.read(0, A, 1), "7 -1");
            is(h.draft(1, 1, 40), 40);
            refuses(h, STATE, "draft", 1, 1, 1);
            is(h.put(0, A, -1), 2);
            is(h.about(0, A, 2, 0), 40);
            is(h.read(0, A, 2, 39), 8);
            is(h.read(0, A, 2, 40), -1);
        });
    }

    private void lengths(Harbour h, String due, int... bytes) {
        int number = h.put(0, A, bytes);
        is(h.lengths(0, A, number), due);
    }

    private void cuts() {
        edge("It is cut from its beginning: a part ends behind a byte, if it has 6 then;", h -> {
            lengths(h, "5", times(5, 1));
            lengths(h, "6", times(6, 1));
            lengths(h, "61", times(7, 1));
            lengths(h, "66", times(12, 1));
            lengths(h, "661", times(13, 1));
            lengths(h, "62", 1, 1, 1, 1, 1, 2, 1, 2);
        });
        edge("or if it has 2 or more, and 3 times the byte ahead of the last one and the last one, together, "
                + "leave 0 by 5;", h -> {
            lengths(h, "1", 0);
            lengths(h, "2", 0, 0);
            lengths(h, "21", 0, 0, 0);
            lengths(h, "22", 0, 0, 0, 0);
            lengths(h, "21", 1, 2, 9);
            lengths(h, "3", 1, 1, 9);
            lengths(h, "3", 1, 3, 9);
            lengths(h, "21", 15, 15, 1);
            lengths(h, "3", 15, 14, 1);
            lengths(h, "21", 2, 4, 1);
            lengths(h, "3", 4, 2, 1);
            lengths(h, "31", 1, 1, 2, 1);
            lengths(h, "41", 1, 1, 1, 2, 1);
            lengths(h, "51", 1, 1, 1, 1, 2, 1);
            lengths(h, "24", 1, 2, 9, 9, 1, 1);
        });
        edge("or where the bytes end.", h -> {
            lengths(h, "1", 3);
            lengths(h, "2", 1, 2);
            is(h.about(0, A, 2, 1), 1);
            is(h.part(0, A, 2, 1), -1);
            lengths(h, "21", 1, 2, 1);
            lengths(h, "6666664", times(40, 1));
            lengths(h, "22222222222222222222", times(40, 0));
        });
        edge("A part is told by its bytes: parts of a region with the same bytes are one.", h -> {
            int[][] bytes = {{1, 1}, {1, 1, 0}, {1}, {1, 1, 1}, {2, 1}, {1, 1, 1, 1, 1, 1}, {1, 1, 1, 1, 1, 3},
                {4, 1, 1, 1, 1, 1}, {0}, {0, 0}, {1, 0}};
            for (int i = 0; i < bytes.length; i++) {
                int number = h.put(0, A, bytes[i]);
                is(h.parts(0, A, number), "" + i);
            }
            for (int i = 0; i < bytes.length; i++) {
                int number = h.put(0, B, bytes[i]);
                is(h.parts(0, B, number), "" + i);
            }
            int number = h.put(1, A, bytes[7]);
            is(h.parts(1, A, number), "0");
            is(count(h, 0, 7), 2);
        });
    }

    private void numbers() {
        edge("Parts of a region are numbered from 0 as they come, at most 90 ever;", h -> {
            fillParts(h, 0, 89);
            int[][] twoNew = {{9, 9, 9, 9, 9, 9, 9}, {1, 1, 1, 9, 9, 9, 9, 9, 9, 7}, {9, 9, 9, 9, 9, 9, 4, 9, 9, 9, 9, 9},
                {9, 9, 9, 9, 9, 9, 9, 9, 9, 9, 9, 7}};
            for (int[] bytes : twoNew) {
                h.bytes(bytes);
                refuses(h, STATE, "put", 0, A, -1);
                h.clear();
            }
            int[] nines = times(6, 9);
            int number = h.put(0, A, join(bytesOfPart(5), nines, bytesOfPart(6), nines, nines));
            is(h.parts(0, A, number), "5 89 6 89 89");
            is(count(h, 0, 89), 3);
        });
        edge("Parts of a region are numbered from 0 as they come, at most 90 ever;", h -> {
            refuses(h, INDEX, "partIs", 0, 0, 0);
            fillParts(h, 0, 89);
            is(count(h, 0, 0), 1);
            is(count(h, 0, 88), 1);
            refuses(h, INDEX, "partIs", 0, 89, 0);
            h.bytes(join(bytesOfPart(89), bytesOfPart(90)));
            refuses(h, STATE, "put", 0, A, -1);
            h.clear();
            int number = h.put(0, A, join(bytesOfPart(89), bytesOfPart(0), bytesOfPart(89)));
            is(h.parts(0, A, number), "89 0 89");
            h.bytes(bytesOfPart(90));
            refuses(h, STATE, "put", 0, A, -1);
            refuses(h, INDEX, "partIs", 0, 90, 0);
            is(h.put(1, A, -1), number + 1);
            is(h.parts(1, A, number + 1), "0");
            is(h.put(0, B, bytesOfPart(89)), number + 2);
            h.drop(0, A, number);
            h.drop(0, B, number + 2);
            is(h.sweep(0, 99), 1);
            h.bytes(bytesOfPart(89));
            refuses(h, STATE, "put", 0, A, -1);
        });
    }

    private void counts() {
        edge("a part has a count, how often it is in the versions of the region,", h -> {
            h.put(0, A, new int[] {1, 2, 3, 1, 1, 2});
            is(h.parts(0, A, 1), "0 1 0");
            is(count(h, 0, 0), 2);
            is(count(h, 0, 1), 1);
            h.put(0, B, new int[] {1, 2});
            is(count(h, 0, 0), 3);
            h.put(1, B, new int[] {1, 2});
            is(count(h, 0, 0), 3);
            is(count(h, 1, 0), 1);
            h.delete(0, A);
            is(count(h, 0, 0), 3);
            h.drop(0, A, 1);
            is(count(h, 0, 0), 1);
            is(count(h, 0, 1), 0);
            h.follow(1, 1);
            is(count(h, 0, 0), 2);
        });
        edge("and stays when that is 0, until it is swept;", h -> {
            h.put(0, A, ONE);
            h.drop(0, A, 1);
            h.pass(30);
            is(count(h, 0, 0), 0);
            is(h.partIs(0, 0, 1), 1);
            is(goodShards(h, 0, 0), 5);
            is(h.sweep(0, 1), 1);
            refuses(h, INDEX, "partIs", 0, 0, 0);
        });
    }

    private void foundAgain() {
        edge("it is found again, if it is not swept, and stays as it is, if it can be read;", h -> {
            h.put(0, A, ONE);
            h.rot(0, 0, 0);
            h.node(0, 4, false);
            h.node(0, 4, true);
            is(goodShards(h, 0, 0), 3);
            h.put(0, A, ONE);
            is(h.parts(0, A, 2), "0");
            is(count(h, 0, 0), 2);
            is(goodShards(h, 0, 0), 3);
            is(h.nodes(0, 0), "2 -1 1 3 5");
            h.drop(0, A, 1);
            h.drop(0, A, 2);
            h.put(0, A, ONE);
            is(h.parts(0, A, 3), "0");
            is(count(h, 0, 0), 1);
            is(h.nodes(0, 0), "2 -1 1 3 5");
            is(goodShards(h, 0, 0), 3);
        });
        edge("otherwise, whatever its count, it comes anew, with its number.", h -> {
            h.put(0, A, ONE);
            h.put(0, B, new int[] {2});
            h.rot(0, 0, 0, 1, 2);
            is(goodShards(h, 0, 0), 2);
            h.put(0, A, ONE);
            is(h.parts(0, A, 3), "0");
            is(count(h, 0, 0), 2);
            is(goodShards(h, 0, 0), 5);
            h.lose(0, 2, 4, 1);
            h.drop(0, A, 1);
            h.drop(0, A, 3);
            is(goodShards(h, 0, 0), 2);
            h.put(0, A, ONE);
            is(h.parts(0, A, 4), "0");
            is(count(h, 0, 0), 1);
            is(h.nodes(0, 0), "3 5 0 -1 -1");
        });
        edge("it comes anew, with its number", h -> {
            fillParts(h, 0, 90);
            h.rot(0, 0, 0, 1, 2);
            h.bytes(join(bytesOfPart(0), bytesOfPart(90)));
            refuses(h, STATE, "put", 0, A, -1);
            h.clear();
            is(goodShards(h, 0, 0), 2);
            is(h.put(0, A, join(bytesOfPart(0), bytesOfPart(89), bytesOfPart(0))) > 0, true);
            is(goodShards(h, 0, 0), 5);
            is(count(h, 0, 0), 3);
            refuses(h, INDEX, "partIs", 0, 90, 0);
        });
        edge("One that is swept has no number any more.", h -> {
            h.put(0, A, ONE);
            h.put(0, B, new int[] {2});
            h.drop(0, A, 1);
            h.sweep(0, 1);
            refuses(h, INDEX, "partIs", 0, 0, 0);
            refuses(h, INDEX, "rot", 0, 0, 0);
            is(h.mend(0, 99), 0);
            is(h.sweep(0, 99), 0);
            h.put(0, A, ONE);
            is(h.parts(0, A, 3), "2");
            refuses(h, INDEX, "partIs", 0, 0, 0);
            is(count(h, 0, 1), 1);
            h.lose(0, 2);
            is(h.nodes(0, 1), "3 1 4 -1 0");
        });
    }
}
