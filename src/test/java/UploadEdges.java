/** Promises 10 to 12: uploads. */
final class UploadEdges extends Edges {
    private static final int[] NOT_BEGUN = {MIN, -1, 1, 11, 12, MAX};

    UploadEdges(Check check, Document document) {
        super(check, document);
    }

    @Override
    void all() {
        upload();
        piece();
        pieceRefused();
        finish();
        finishRefused();
    }

    private void upload() {
        under("Promise 10");
        edge("Begins an upload.", h -> {
            refuses(h, INDEX, "piece", 0, 1);
            h.upload(1, AB);
            is(h.version(1, AB, 0), 0);
            is(h.list(1, 0, 0, 0), 0);
            h.bytes(1);
            is(h.piece(0, 1), 1);
            is(h.version(1, AB, 0), 0);
            is(h.finish(0, false), 1);
            is(h.versions(1, AB), "1");
            is(h.versions(0, AB), "");
        });
        edge("Returns its number, from 0.", h -> {
            is(h.upload(0, A), 0);
            is(h.upload(1, A), 1);
            is(h.finish(0, true), 0);
            is(h.upload(0, A), 2);
        });
        edge("Throws `IndexOutOfBoundsException` as told", h -> {
            refusesRegions(h, "upload", 0, 5);
            refusesRegions(h, "upload", 0, A);
            is(h.upload(1, A), 0);
        });
        edge("Throws `IllegalArgumentException` if key is none", h -> {
            refusesEach(h, ARGUMENT, SOME_NOT_KEYS, 1, "upload", 0, A);
            is(h.upload(0, DDD), 0);
            is(h.upload(0, A), 1);
        });
        edge("Throws `IllegalStateException` if there were 12", h -> {
            for (int i = 0; i < 11; i++) {
                h.upload(i % 2, A);
            }
            h.finish(3, true);
            is(h.upload(0, A), 11);
            refuses(h, STATE, "upload", 0, A);
            refuses(h, STATE, "upload", 1, A);
            for (int i = 0; i < 12; i++) {
                if (i != 3) {
                    h.finish(i, true);
                }
            }
            refuses(h, STATE, "upload", 0, A);
        });
    }

    private void piece() {
        under("Promise 11");
        edge("Puts the draft as a piece of an upload, in place of one with that number; the draft is empty then.", h -> {
            h.upload(0, A);
            h.bytes(1, 2, 3);
            is(h.piece(0, 4), 3);
            is(h.clear(), 0);
            h.bytes(9);
            is(h.piece(0, 4), 1);
            h.bytes(8, 7);
            is(h.piece(0, 3), 3);
            is(h.piece(0, 9, 4, 4, 4, 4), 7);
            is(h.finish(0, false), 1);
            is(h.read(0, A, 1), "8 7 9 4 4 4 4 -1");
        });
        edge("- `number`: 1 to 9", h -> {
            h.upload(0, A);
            h.bytes(1);
            refusesOutside(h, ARGUMENT, 1, 9, 1, "piece", 0, 1);
            is(h.piece(0, 9), 1);
            for (int number = 8; number >= 1; number--) {
                is(h.piece(0, number, number), 10 - number);
            }
            h.finish(0, false);
            is(h.read(0, A, 1), "1 2 3 4 5 6 7 8 1 -1");
        });
        edge("Returns how many bytes all pieces have then.", h -> {
            h.upload(0, A);
            h.upload(0, A);
            is(h.piece(0, 1, 1, 2, 3), 3);
            is(h.piece(1, 1, 1), 1);
            is(h.piece(0, 2, 1), 4);
            is(h.piece(0, 1, 5), 2);
            is(h.piece(0, 1, 5, 6), 3);
        });
    }

    private void pieceRefused() {
        edge("Throws `IndexOutOfBoundsException` as told, or if it is over", h -> {
            h.upload(0, A);
            refusesEach(h, INDEX, NOT_BEGUN, 0, "piece", 0, 0);
            h.bytes(1);
            refusesEach(h, INDEX, NOT_BEGUN, 0, "piece", 0, 1);
            h.piece(0, 1);
            h.finish(0, false);
            h.bytes(1);
            refuses(h, INDEX, "piece", 0, 1);
            refuses(h, INDEX, "piece", 0, 0);
            h.upload(0, A);
            h.finish(1, true);
            refuses(h, INDEX, "piece", 1, 1);
        });
        edge("Throws `IllegalArgumentException` if number is out of range", h -> {
            h.upload(0, A);
            refuses(h, ARGUMENT, "piece", 0, 0);
            refuses(h, ARGUMENT, "piece", 0, 10);
            h.bytes(1);
            refuses(h, ARGUMENT, "piece", 0, 0);
            refuses(h, ARGUMENT, "piece", 0, 10);
            is(h.piece(0, 1), 1);
        });
        edge("Throws `IllegalStateException` if the draft is empty, or all pieces would have more than 40", h -> {
            h.upload(0, A);
            refuses(h, STATE, "piece", 0, 1);
            h.draft(1, 1, 40);
            is(h.piece(0, 1), 40);
            h.bytes(1);
            refuses(h, STATE, "piece", 0, 2);
            refuses(h, STATE, "piece", 0, 9);
            h.draft(2, 1, 39);
            is(h.piece(0, 1), 40);
            h.draft(5, 0, 38);
            is(h.piece(0, 1), 38);
            is(h.piece(0, 2, 1), 39);
            h.bytes(6, 6);
            refuses(h, STATE, "piece", 0, 3);
            refuses(h, STATE, "piece", 0, 9);
            is(h.piece(0, 2), 40);
            h.bytes(7, 7, 7);
            refuses(h, STATE, "piece", 0, 2);
            is(h.piece(0, 1), 5);
            refuses(h, STATE, "piece", 0, 1);
            h.finish(0, false);
            is(h.read(0, A, 1), "7 7 7 6 6 -1");
        });
    }

    private void finish() {
        under("Promise 12");
        edge("Ends an upload: its pieces, by rising numbers, are put as one object; or it is given up.", h -> {
            h.upload(0, A);
            h.piece(0, 9, 1, 1, 1);
            h.piece(0, 1, 1, 1);
            h.piece(0, 5, 1, 1);
            h.bytes(3);
            h.finish(0, false);
            is(h.read(0, A, 1), "1 1 1 1 1 1 1 -1");
            is(h.lengths(0, A, 1), "61");
            is(h.behind(0), 1);
            is(h.clear(), 1);
            h.upload(0, A);
            h.piece(1, 1, 4);
            h.finish(1, true);
            is(h.versions(0, A), "1");
            is(h.behind(0), 1);
            h.upload(1, B);
            h.draft(2, 1, 40);
            h.piece(2, 1);
            h.finish(2, false);
            is(h.about(1, B, 2, 0), 40);
        });
        edge("Returns the number of the version; 0 if it is given up.", h -> {
            h.put(0, A, ONE);
            h.upload(0, A);
            h.piece(0, 1, 4);
            is(h.finish(0, false), 2);
            h.upload(1, A);
            h.piece(1, 1, 4);
            is(h.finish(1, true), 0);
            h.upload(1, A);
            is(h.finish(2, true), 0);
            is(h.put(0, A, ONE), 3);
        });
    }

    private void finishRefused() {
        edge("Throws `IndexOutOfBoundsException` as told, or if it is over", h -> {
            refuses(h, INDEX, "finish", 0, 1);
            h.upload(0, A);
            refusesEach(h, INDEX, NOT_BEGUN, 0, "finish", 0, 0);
            refusesEach(h, INDEX, NOT_BEGUN, 0, "finish", 0, 1);
            h.piece(0, 1, 1);
            h.finish(0, false);
            refuses(h, INDEX, "finish", 0, 0);
            refuses(h, INDEX, "finish", 0, 1);
            h.upload(0, A);
            h.finish(1, true);
            refuses(h, INDEX, "finish", 1, 1);
            refuses(h, INDEX, "finish", 1, 0);
        });
        edge("Throws `IllegalStateException` unless it is given up: if it has no pieces,", h -> {
            h.upload(0, A);
            h.bytes(1);
            refuses(h, STATE, "finish", 0, 0);
            is(h.piece(0, 9), 1);
            is(h.finish(0, false), 1);
            h.upload(0, A);
            is(h.finish(1, true), 0);
        });
        edge("or it is FULL", h -> {
            h.upload(0, A);
            h.upload(0, B);
            h.piece(0, 1, 1);
            h.piece(1, 1, 1);
            fillVersions(h, 0, C, 39);
            is(h.finish(0, false), 40);
            refuses(h, STATE, "finish", 1, 0);
            h.drop(0, C, 1);
            is(h.finish(1, false), 41);
        });
        edge("or it is FULL", h -> {
            h.upload(0, A);
            h.piece(0, 1, 1);
            h.lose(0, 0, 1, 2, 3);
            refuses(h, STATE, "finish", 0, 0);
            h.node(0, 0, true);
            is(h.finish(0, false), 1);
        });
        edge("or it is FULL", h -> {
            fillParts(h, 0, 89);
            h.upload(0, A);
            h.piece(0, 1, bytesOfPart(89));
            h.piece(0, 2, bytesOfPart(90));
            refuses(h, STATE, "finish", 0, 0);
            h.piece(0, 1, bytesOfPart(90));
            is(h.finish(0, false) > 0, true);
            is(count(h, 0, 89), 2);
        });
        edge("or it is FULL", h -> {
            fillNumbers(h, 199);
            h.upload(1, A);
            h.piece(0, 1, 1);
            h.upload(1, A);
            h.piece(1, 1, 1);
            is(h.finish(0, false), 200);
            refuses(h, STATE, "finish", 1, 0);
            is(h.finish(1, true), 0);
        });
    }
}
