/** Promises 13 to 16, and 29: lists, versions, letters. */
final class ListEdges extends Edges {
    private static final int[] NO_BEGINNINGS = {MIN, -1, 5, 25, 26, 30, 120, 125, 156, MAX};

    ListEdges(Check check, Document document) {
        super(check, document);
    }

    @Override
    void all() {
        list();
        listRefused();
        version();
        about();
        part();
        letter();
    }

    private void list() {
        under("Promise 13");
        edge("Returns a key whose latest version is an object, by order.", h -> {
            int[] order = {A, AA, AAA, AAB, AB, B, DDD};
            for (int i : new int[] {5, 3, 6, 0, 4, 2, 1}) {
                h.put(0, order[i], ONE);
            }
            for (int i = 0; i < order.length; i++) {
                is(h.list(0, 0, 0, i), order[i]);
                is(h.list(1, 0, 0, i), 0);
            }
            is(h.delete(0, AAA), 8);
            is(h.list(0, 0, 0, 2), AAB);
            h.drop(0, AAA, 8);
            is(h.list(0, 0, 0, 2), AAA);
            h.drop(0, A, h.version(0, A, 0));
            is(h.list(0, 0, 0, 0), AA);
            is(h.put(0, A, ONE), 9);
            is(h.list(0, 0, 0, 0), A);
        });
        edge("- `beginning`: the beginning of keys, 0 for all", h -> {
            for (int key : new int[] {A, AA, AAB, AB, B, D, DDD}) {
                h.put(0, key, ONE);
            }
            int[][] due = {{0, A, AA, AAB, AB, B, D, DDD}, {A, A, AA, AAB, AB}, {AA, AA, AAB}, {AAB, AAB}, {AAA},
                {B, B}, {C}, {D, D, DDD}, {24, DDD}, {DDD, DDD}};
            for (int[] row : due) {
                for (int place = 1; place < row.length; place++) {
                    is(h.list(0, row[0], 0, place - 1), row[place]);
                }
                is(h.list(0, row[0], 0, row.length - 1), 0);
            }
            refusesEach(h, ARGUMENT, NO_BEGINNINGS, 1, "list", 0, 0, 0, 0);
        });
        edge("- `after`: a key behind which they are; 0 for none", h -> {
            for (int key : new int[] {A, AAA, AB, DDD}) {
                h.put(0, key, ONE);
            }
            int[][] due = {{0, A}, {A, AAA}, {AA, AAA}, {AAA, AB}, {AAB, AB}, {34, AB}, {AB, DDD}, {B, DDD}, {D, DDD},
                {24, DDD}, {123, DDD}, {DDD, 0}};
            for (int[] row : due) {
                is(h.list(0, 0, row[0], 0), row[1]);
            }
            is(h.list(0, A, AAA, 0), AB);
            is(h.list(0, A, AB, 0), 0);
            is(h.list(0, AA, A, 0), AAA);
            is(h.list(0, D, A, 0), DDD);
            is(h.list(0, A, 0, 2), AB);
            is(h.list(0, A, A, 1), AB);
            is(h.list(0, A, A, 2), 0);
            refusesEach(h, ARGUMENT, NO_BEGINNINGS, 2, "list", 0, 0, 0, 0);
        });
        edge("- `place`: 0 for the first one", h -> {
            h.put(0, B, ONE);
            h.put(0, A, ONE);
            is(h.list(0, 0, 0, 0), A);
            is(h.list(0, 0, 0, 1), B);
            refuses(h, INDEX, "list", 0, 0, 0, -1);
        });
        edge("Returns the key; 0 if there are not so many.", h -> {
            is(h.list(0, 0, 0, 0), 0);
            h.put(0, A, ONE);
            is(h.list(0, 0, 0, 0), A);
            is(h.list(0, 0, 0, 1), 0);
            is(h.list(0, 0, 0, MAX), 0);
            h.delete(0, A);
            is(h.list(0, 0, 0, 0), 0);
        });
    }

    private void listRefused() {
        edge("Throws `IndexOutOfBoundsException` as told, or if place is below 0", h -> {
            h.put(0, A, ONE);
            refusesRegions(h, "list", 0, 0, 0, 0);
            refusesRegions(h, "list", 0, 5, 5, 0);
            refuses(h, INDEX, "list", 0, 0, 0, MIN);
            refuses(h, INDEX, "list", 0, 0, 0, -1);
            refuses(h, INDEX, "list", 0, 5, 5, -1);
        });
        edge("Throws `IllegalArgumentException` if beginning or after is neither 0 nor a key", h -> {
            h.put(0, A, ONE);
            refusesEach(h, ARGUMENT, NO_BEGINNINGS, 1, "list", 0, 0, 0, 9);
            refusesEach(h, ARGUMENT, NO_BEGINNINGS, 2, "list", 0, A, 0, 9);
            is(h.list(0, DDD, DDD, 0), 0);
        });
    }

    private void version() {
        under("Promise 14");
        edge("Returns a version of a key, by rising numbers.", h -> {
            h.put(1, A, ONE);
            h.put(0, A, ONE);
            h.put(0, B, ONE);
            h.delete(0, A);
            h.put(1, A, ONE);
            h.follow(1, 99);
            is(h.versions(0, A), "1 2 4 5");
            is(h.versions(0, B), "3");
            is(h.versions(1, A), "1 5");
            h.drop(0, A, 2);
            is(h.versions(0, A), "1 4 5");
        });
        edge("- `place`: 0 for the oldest one", h -> {
            h.put(0, A, ONE);
            h.put(0, A, ONE);
            is(h.version(0, A, 0), 1);
            is(h.version(0, A, 1), 2);
            h.drop(0, A, 1);
            is(h.version(0, A, 0), 2);
            refuses(h, INDEX, "version", 0, A, -1);
        });
        edge("Returns its number; 0 if there are not so many.", h -> {
            is(h.version(0, A, 0), 0);
            fillVersions(h, 0, A, 40);
            is(h.version(0, A, 39), 40);
            is(h.version(0, A, 40), 0);
            is(h.version(0, A, MAX), 0);
            is(h.version(1, A, 0), 0);
            is(h.version(0, B, 0), 0);
        });
        edge("Throws `IndexOutOfBoundsException` as told, or if place is below 0", h -> {
            h.put(0, A, ONE);
            refusesRegions(h, "version", 0, A, 0);
            refusesRegions(h, "version", 0, 5, 0);
            refuses(h, INDEX, "version", 0, A, -1);
            refuses(h, INDEX, "version", 0, A, MIN);
            refuses(h, INDEX, "version", 0, 5, -1);
        });
        edge("Throws `IllegalArgumentException` if key is none", h -> {
            h.put(0, A, ONE);
            refusesEach(h, ARGUMENT, SOME_NOT_KEYS, 1, "version", 0, A, 0);
            is(h.version(0, DDD, 0), 0);
        });
    }

    private void about() {
        under("Promise 15");
        edge("Returns what a version is.", h -> {
            h.pass(4);
            h.put(0, A, new int[] {1, 2, 3, 1, 1, 2, 9});
            h.put(0, A, ONE);
            h.lock(0, A, 1, 12);
            h.rule(A, 1, 1);
            h.pass(1);
            int[] due = {7, 4, 1, 4, 12, 0};
            for (int what = 0; what <= 5; what++) {
                is(h.about(0, A, 1, what), due[what]);
            }
        });
        edge("- `version`: a version of the key", h -> {
            h.put(0, A, ONE);
            h.put(0, B, ONE);
            refusesEach(h, INDEX, new int[] {MIN, -1, 0, 2, 3, 201, MAX}, 2, "about", 0, A, 1, 0);
            is(h.about(0, A, 1, 0), 1);
        });
        edge("- `what`: 0 how many bytes, 0 for a mark;", h -> {
            h.put(0, A, ONE);
            h.draft(1, 1, 40);
            h.put(0, A, -1);
            h.delete(0, A);
            is(h.about(0, A, 1, 0), 1);
            is(h.about(0, A, 2, 0), 40);
            is(h.about(0, A, 3, 0), 0);
        });
        edge("1 how many parts;", h -> {
            h.put(0, A, ONE);
            h.put(0, A, times(40, 0));
            h.put(0, A, times(40, 1));
            h.delete(0, A);
            is(h.about(0, A, 1, 1), 1);
            is(h.about(0, A, 2, 1), 20);
            is(h.about(0, A, 3, 1), 7);
            is(h.about(0, A, 4, 1), 0);
        });
        edge("2 its class;", h -> {
            h.put(0, A, ONE);
            h.delete(0, A);
            h.rule(0, 1, 1);
            h.rule(0, 2, 2);
            for (int due = 0; due <= 2; due++) {
                is(h.about(0, A, 1, 2), due);
                is(h.about(0, A, 2, 2), 0);
                h.pass(1);
            }
            is(h.about(0, A, 1, 2), 2);
        });
        edge("3 the day on which it came about;", h -> {
            h.put(0, A, ONE);
            h.pass(30);
            h.delete(0, A);
            is(h.about(0, A, 1, 3), 0);
            is(h.about(0, A, 2, 3), 30);
            h.follow(0, 99);
            is(h.about(1, A, 1, 3), 0);
        });
        edge("4 the day until which it is locked;", h -> {
            h.put(0, A, ONE);
            is(h.about(0, A, 1, 4), -1);
            h.lock(0, A, 1, 0);
            is(h.about(0, A, 1, 4), 0);
            h.lock(0, A, 1, 999);
            is(h.about(0, A, 1, 4), 999);
        });
        edge("5 1 for a mark, otherwise 0", h -> {
            h.put(0, A, ONE);
            h.delete(0, A);
            is(h.about(0, A, 1, 5), 0);
            is(h.about(0, A, 2, 5), 1);
        });
        edge("Throws `IndexOutOfBoundsException` as told", h -> {
            h.put(0, A, ONE);
            refusesRegions(h, "about", 0, A, 1, 6);
            refuses(h, INDEX, "about", 1, A, 1, 0);
            refuses(h, INDEX, "about", 0, A, 0, 0);
            refuses(h, INDEX, "about", 0, A, 2, 6);
        });
        edge("Throws `IllegalArgumentException` if key is none, or what is out of range", h -> {
            h.put(0, A, ONE);
            refusesEach(h, INDEX, SOME_NOT_KEYS, 1, "about", 0, A, 1, 0);
            refusesOutside(h, ARGUMENT, 0, 5, 3, "about", 0, A, 1, 0);
        });
    }

    private void part() {
        under("Promise 16");
        edge("Returns a part of a version.", h -> {
            h.put(0, A, new int[] {1, 2, 3, 1, 1, 2, 9});
            h.put(0, B, new int[] {9});
            is(h.parts(0, A, 1), "0 1 0 2");
            is(h.parts(0, B, 2), "2");
        });
        edge("- `version`: a version of the key", h -> {
            h.put(0, A, ONE);
            h.put(0, B, ONE);
            refusesEach(h, INDEX, new int[] {MIN, -1, 0, 2, 3, 201, MAX}, 2, "part", 0, A, 1, 0);
        });
        edge("- `place`: from 0", h -> {
            h.put(0, A, new int[] {1, 2, 9});
            is(h.part(0, A, 1, 0), 0);
            is(h.part(0, A, 1, 1), 1);
            refuses(h, INDEX, "part", 0, A, 1, -1);
        });
        edge("Returns the number of the part; NONE if there are not so many.", h -> {
            h.put(0, A, times(40, 0));
            h.put(0, A, new int[] {3});
            h.delete(0, A);
            is(h.part(0, A, 1, 19), 0);
            is(h.part(0, A, 1, 20), -1);
            is(h.part(0, A, 2, 0), 1);
            is(h.part(0, A, 2, 1), -1);
            is(h.part(0, A, 2, MAX), -1);
            is(h.part(0, A, 3, 0), -1);
        });
        edge("Throws `IndexOutOfBoundsException` as told, or if place is below 0", h -> {
            h.put(0, A, ONE);
            refusesRegions(h, "part", 0, A, 1, 0);
            refuses(h, INDEX, "part", 1, A, 1, 0);
            refuses(h, INDEX, "part", 0, A, 2, 0);
            refuses(h, INDEX, "part", 0, A, 1, -1);
            refuses(h, INDEX, "part", 0, A, 1, MIN);
        });
        edge("Throws `IllegalArgumentException` if key is none", h -> {
            h.put(0, A, ONE);
            refusesEach(h, INDEX, SOME_NOT_KEYS, 1, "part", 0, A, 1, 0);
        });
    }

    private void letter() {
        under("Promise 29");
        edge("Returns a letter of a key.", h -> {
            int[] some = {A, D, AA, 24, AAA, DDD, 38};
            String[] due = {"a  ", "d  ", "aa ", "dd ", "aaa", "ddd", "abc"};
            for (int i = 0; i < some.length; i++) {
                is("" + h.letter(some[i], 0) + h.letter(some[i], 1) + h.letter(some[i], 2), due[i]);
            }
            int withoutSecondLetter = 2 * 25 + 4;
            refuses(h, ARGUMENT, "letter", withoutSecondLetter, 0);
        });
        edge("- `at`: from 0", h -> {
            is(h.letter(38, 0), 'a');
            is(h.letter(38, 1), 'b');
            refuses(h, INDEX, "letter", 38, -1);
        });
        edge("Returns the letter; a blank behind the end.", h -> {
            is(h.letter(D, 0), 'd');
            is(h.letter(D, 1), ' ');
            is(h.letter(24, 1), 'd');
            is(h.letter(24, 2), ' ');
            is(h.letter(DDD, 2), 'd');
            is(h.letter(DDD, 3), ' ');
            is(h.letter(DDD, 4), ' ');
            is(h.letter(A, MAX), ' ');
        });
        edge("Throws `IllegalArgumentException` if key is none", h -> {
            refusesEach(h, ARGUMENT, SOME_NOT_KEYS, 0, "letter", 1, 0);
            refusesEach(h, ARGUMENT, SOME_NOT_KEYS, 0, "letter", 1, -1);
        });
        edge("Throws `IndexOutOfBoundsException` if at is below 0", h -> {
            refuses(h, INDEX, "letter", A, -1);
            refuses(h, INDEX, "letter", DDD, MIN);
        });
    }
}
