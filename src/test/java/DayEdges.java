/** Promises 22 to 28: days, regions. */
final class DayEdges extends Edges {
    DayEdges(Check check, Document document) {
        super(check, document);
    }

    @Override
    void all() {
        rule();
        pass();
        cost();
        follow();
        followRefused();
        behind();
        areAlike();
        agrees();
    }

    private void rule() {
        under("Promise 22");
        edge("Adds a rule of ageing.", h -> {
            h.put(0, A, ONE);
            h.pass(1);
            is(h.about(0, A, 1, 2), 0);
            h.rule(A, 1, 1);
            is(h.about(0, A, 1, 2), 0);
            h.pass(1);
            is(h.about(0, A, 1, 2), 1);
            h.rule(A, 1, 2);
            h.pass(1);
            is(h.about(0, A, 1, 2), 2);
        });
        edge("- `beginning`: the beginning of keys, 0 for all", h -> {
            refusesEach(h, ARGUMENT, new int[] {MIN, -1, 5, 25, 26, 30, 120, 125, 156, MAX}, 0, "rule", 0, 1, 1);
            for (int key : new int[] {A, AA, AAB, AB, DDD}) {
                h.put(0, key, ONE);
            }
            h.rule(AA, 0, 1);
            h.rule(DDD, 0, 1);
            h.pass(1);
            is(h.about(0, A, 1, 2), 0);
            is(h.about(0, AA, 2, 2), 1);
            is(h.about(0, AAB, 3, 2), 1);
            is(h.about(0, AB, 4, 2), 0);
            is(h.about(0, DDD, 5, 2), 1);
            h.rule(0, 0, 2);
            h.pass(1);
            is(h.about(0, A, 1, 2), 2);
            is(h.about(0, AB, 4, 2), 2);
        });
        edge("- `days`: 0 to 99", h -> {
            refusesOutside(h, ARGUMENT, 0, 99, 1, "rule", 0, 1, 1);
            is(h.rule(0, 0, 1), 1);
            is(h.rule(0, 99, 2), 2);
            h.put(0, A, ONE);
            h.pass(1);
            is(h.about(0, A, 1, 2), 1);
            for (int i = 0; i < 3; i++) {
                h.pass(30);
            }
            is(h.pass(7), 98);
            is(h.about(0, A, 1, 2), 1);
            h.pass(1);
            is(h.about(0, A, 1, 2), 2);
        });
        edge("- `to`: 1 to 3", h -> {
            refusesOutside(h, ARGUMENT, 1, 3, 2, "rule", 0, 1, 1);
            h.put(0, A, ONE);
            h.put(0, A, ONE);
            h.rule(0, 1, 1);
            h.pass(1);
            is(h.about(0, A, 1, 2), 1);
            h.rule(0, 1, 2);
            h.pass(1);
            is(h.about(0, A, 1, 2), 2);
            h.rule(0, 1, 3);
            h.pass(1);
            is(h.versions(0, A), "2");
        });
        edge("Returns how many there are then.", h -> {
            for (int many = 1; many <= 6; many++) {
                is(h.rule(A, 5, 1), many);
            }
        });
        edge("Throws `IllegalArgumentException` as told", h -> {
            h.rule(0, 99, 1);
            refuses(h, ARGUMENT, "rule", 5, 0, 1);
            refuses(h, ARGUMENT, "rule", 0, -1, 1);
            refuses(h, ARGUMENT, "rule", 0, 100, 1);
            refuses(h, ARGUMENT, "rule", 0, 0, 0);
            refuses(h, ARGUMENT, "rule", 0, 0, 4);
            is(h.rule(0, 99, 1), 2);
        });
        edge("Throws `IllegalStateException` if there are 6", h -> {
            h.put(0, A, ONE);
            for (int many = 1; many <= 5; many++) {
                h.rule(0, 99, 1);
            }
            is(h.rule(0, 99, 2), 6);
            refuses(h, STATE, "rule", 0, 0, 1);
            refuses(h, STATE, "rule", 0, 99, 2);
            h.pass(1);
            is(h.about(0, A, 1, 2), 0);
        });
    }

    private void pass() {
        under("Promise 23");
        edge("Lets days pass: each ends, then the next one begins.", h -> {
            h.put(0, A, new int[] {1, 2});
            h.rule(0, 1, 1);
            h.rule(0, 3, 2);
            h.pass(1);
            is(h.cost(0), 8);
            is(h.cost(1), 0);
            is(h.about(0, A, 1, 2), 1);
            h.pass(3);
            is(h.cost(0), 8);
            is(h.cost(1), 8);
            is(h.cost(2), 2);
        });
        edge("Lets days pass: each ends, then the next one begins.", h -> {
            h.put(0, A, ONE);
            h.put(0, A, new int[] {1, 2, 3});
            h.rule(0, 2, 3);
            h.pass(2);
            is(h.cost(0), 32);
            is(h.versions(0, A), "2");
            h.pass(1);
            is(h.cost(0), 44);
        });
        edge("- `days`: 1 to 30", h -> {
            refusesOutside(h, ARGUMENT, 1, 30, 0, "pass", 1);
            is(h.pass(1), 1);
            is(h.pass(30), 31);
        });
        edge("Returns the day that it is then.", h -> {
            is(h.pass(2), 2);
            is(h.pass(29), 31);
            h.put(0, A, ONE);
            is(h.about(0, A, 1, 3), 31);
        });
        edge("Throws `IllegalArgumentException` as told", h -> {
            h.put(0, A, ONE);
            refuses(h, ARGUMENT, "pass", 0);
            refuses(h, ARGUMENT, "pass", 31);
            is(h.cost(0), 0);
            is(h.pass(1), 1);
        });
    }

    private void cost() {
        under("Promise 24");
        edge("Returns what objects of a class have cost so far, in both regions.", h -> {
            h.put(0, A, ONE);
            h.put(1, B, new int[] {1, 2, 3});
            h.delete(1, B);
            is(h.cost(0), 0);
            h.pass(1);
            is(h.cost(0), 16);
            h.follow(0, 99);
            h.pass(1);
            is(h.cost(0), 16 + 20);
            h.drop(0, A, 1);
            h.drop(1, B, 2);
            is(h.cost(0), 36);
            h.pass(1);
            is(h.cost(0), 40);
            h.rule(0, 0, 2);
            h.pass(2);
            is(h.cost(0), 44);
            is(h.cost(1), 0);
            is(h.cost(2), 1);
        });
        edge("- `of`: 0 to 2", h -> {
            refusesOutside(h, ARGUMENT, 0, 2, 0, "cost", 0);
            is(h.cost(0), 0);
            is(h.cost(2), 0);
        });
        edge("Throws `IllegalArgumentException` as told", h -> {
            refuses(h, ARGUMENT, "cost", -1);
            refuses(h, ARGUMENT, "cost", 3);
        });
    }

    private void follow() {
        under("Promise 25");
        edge("Lets the other region follow a region, as long as it can.", h -> {
            fillVersions(h, 1, C, 38);
            h.put(0, A, ONE);
            h.put(0, B, ONE);
            h.put(0, D, ONE);
            is(h.follow(0, 99), 2);
            is(h.versions(1, A) + " " + h.versions(1, B) + h.versions(1, D), "39 40");
            is(h.follow(0, 99), 0);
            h.drop(1, C, 1);
            is(h.follow(0, 99), 1);
            is(h.follow(0, 99), 0);
        });
        edge("- `region`: the one that is followed", h -> {
            h.put(0, A, ONE);
            h.put(1, B, ONE);
            is(h.follow(1, 99), 1);
            is(h.versions(0, B), "2");
            is(h.versions(1, A), "");
            is(h.behind(0), 1);
            is(h.behind(1), 0);
            is(h.follow(0, 99), 1);
            is(h.versions(1, A), "1");
        });
        edge("- `most`: 1 to 99", h -> {
            refusesOutside(h, ARGUMENT, 1, 99, 1, "follow", 0, 1);
            h.put(0, A, ONE);
            h.put(0, A, ONE);
            is(h.follow(0, 1), 1);
            is(h.versions(1, A), "1");
            is(h.follow(0, 99), 1);
        });
        edge("Returns how many were taken from what is kept.", h -> {
            is(h.follow(0, 99), 0);
            for (int i = 0; i < 5; i++) {
                h.put(0, A, ONE);
            }
            is(h.follow(0, 3), 3);
            is(h.behind(0), 2);
            is(h.follow(0, 2), 2);
            is(h.behind(0), 0);
            is(h.follow(0, 1), 0);
        });
    }

    private void followRefused() {
        edge("Throws `IndexOutOfBoundsException` as told", h -> {
            h.put(0, A, ONE);
            refusesRegions(h, "follow", 0, 0);
            refusesRegions(h, "follow", 0, 1);
            is(h.behind(0), 1);
        });
        edge("Throws `IllegalArgumentException` if most is out of range", h -> {
            h.put(0, A, ONE);
            refuses(h, ARGUMENT, "follow", 0, 0);
            refuses(h, ARGUMENT, "follow", 0, 100);
            is(h.follow(0, 1), 1);
        });
    }

    private void behind() {
        under("Promise 26");
        edge("Returns how many are kept of a region for the other one.", h -> {
            is(h.behind(0), 0);
            is(h.behind(1), 0);
            h.put(0, A, ONE);
            h.put(0, A, ONE);
            h.delete(0, A);
            h.put(1, A, ONE);
            is(h.behind(0), 3);
            is(h.behind(1), 1);
            h.drop(0, A, 3);
            h.drop(0, A, 1);
            is(h.behind(0), 3);
            h.follow(0, 2);
            is(h.behind(0), 1);
            is(h.behind(1), 1);
            h.follow(0, 99);
            is(h.behind(0), 0);
        });
        edge("Returns how many are kept of a region for the other one.", h -> {
            fillNumbers(h, 200);
            is(h.behind(0), 200);
            is(h.follow(0, 99), 40);
            is(h.behind(0), 160);
        });
        edge("Throws `IndexOutOfBoundsException` as told", h -> refusesRegions(h, "behind", 0));
    }

    private void areAlike() {
        under("Promise 27");
        edge("Tells whether both regions have the same keys whose latest version is an object, with the same bytes, as "
                + "they were put, found plainly.", h -> {
            is(h.areAlike(), true);
            h.put(0, A, new int[] {1, 2});
            is(h.areAlike(), false);
            h.put(1, A, new int[] {1, 2});
            is(h.areAlike(), true);
            int[][] others = {{1, 3}, {2, 2}, {1}, {1, 2, 0}};
            for (int[] bytes : others) {
                h.put(1, A, bytes);
                is(h.areAlike(), false);
            }
            h.delete(1, A);
            is(h.areAlike(), false);
            h.delete(0, A);
            is(h.areAlike(), true);
            h.put(0, DDD, ONE);
            is(h.areAlike(), false);
            h.put(1, 24, ONE);
            is(h.areAlike(), false);
            h.delete(1, 24);
            h.put(1, DDD, ONE);
            is(h.areAlike(), true);
            h.lose(1, 0, 1, 2, 3, 4, 5);
            is(h.areAlike(), true);
            h.rule(0, 0, 2);
            h.pass(1);
            is(h.areAlike(), true);
            h.put(0, DDD, ONE);
            is(h.areAlike(), true);
        });
        edge("with the same bytes, as they were put, found plainly.", h -> {
            h.draft(1, 1, 40);
            h.put(0, A, -1);
            h.draft(1, 1, 39);
            h.draft(9, 0, 1);
            h.put(1, A, -1);
            is(h.areAlike(), false);
            h.draft(1, 1, 40);
            h.put(1, A, -1);
            is(h.areAlike(), true);
        });
    }

    private void agrees() {
        under("Promise 28");
        edge("Tells whether each byte of each object of a region, whether cold or not, that can be read from its shards "
                + "is that which was put, kept plainly beside, and the count of each part is right, counted anew.", h -> {
            is(h.agrees(0), true);
            h.put(0, A, new int[] {15, 9, 3, 3, 3, 7, 8, 1, 2});
            h.put(0, A, new int[] {1, 2, 1, 2});
            h.rot(0, 0, 0, 1);
            is(h.agrees(0), true);
            h.rot(0, 0, 2);
            is(h.agrees(0), true);
            h.node(0, 4, false);
            h.rule(0, 0, 2);
            h.pass(1);
            is(h.agrees(0), true);
            h.drop(0, A, 1);
            is(h.agrees(0), true);
            h.sweep(0, 99);
            is(h.agrees(0), true);
            h.follow(0, 99);
            is(h.agrees(1), true);
            h.lose(0, 0, 1, 2, 3, 5);
            is(h.agrees(0), true);
        });
        edge("Throws `IndexOutOfBoundsException` as told", h -> {
            refusesRegions(h, "agrees", 0);
            is(h.agrees(1), true);
        });
    }
}
