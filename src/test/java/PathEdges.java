/** Terms 2: the path; Terms 3: stretch; promises 12, 13, 18. */
final class PathEdges extends Edges {
    PathEdges(Book book, Due due) {
        super(book, due);
    }

    @Override
    void all() {
        part("Terms 2");
        tells("THE PATH of a COST to an END x: behind all STEPS one is at x;", this::behindAll);
        tells("ahead of each STEP one was: by 'drift' at what one is at, less D;", this::byDrift);
        tells("by 'move', 'rise', 'fall' at that y of all that may be where f (ahead of the STEP) is least,", this::whereLeast);
        tells("which is nearest to x;", this::nearest);
        tells("else where one is.", this::whereOneIs);
        tells("It costs by a STEP what that adds where one is (W times .., C, g);", this::whatItAdds);
        tells("by 'drift', 'move', 'rise', 'fall' nothing.", this::nothing);
        tells("(All it costs together is f(x).)", this::allTogether);
        part("Terms 3");
        tells("STRETCH of THE PATH to an END x: how far one goes by all STEPS together (each: what one is off where one was ahead of it).", this::stretch);
        part("Promise 12");
        tells("Where one is on THE PATH to an END x behind so many STEPS (0 to all).", this::path);
        tells("NoSuchElementException: also other ones.", this::noSuchPath);
        tells("IllegalArgumentException: x.", this::pathIllegal);
        part("Promise 13");
        tells("What the i-th STEP (0 on) costs on THE PATH to an END x.", this::paid);
        tells("NoSuchElementException: also there is none.", this::noSuchPaid);
        tells("IllegalArgumentException: x.", this::paidIllegal);
        part("Promise 18");
        tells("STRETCH.", this::stretchOfEach);
        tells("NoSuchElementException.", () -> noSuchCosts(cost -> new SlopeKeeper().stretch(cost, 0)));
        tells("IllegalArgumentException: x.", this::stretchIllegal);
    }

    private void behindAll() {
        SlopeKeeper k = with("kink 0 5;move 1 1;drift 3;rise;fall;plus 3;");
        for (int x : new int[] {-100000, -1, 0, 1, 100000}) {
            is(x, k.path(0, x, 6));
            is(x, k.path(1, x, 0));
        }
    }

    /** Where one was ahead of the last step. */
    private void ahead(String steps, int x, int was) {
        SlopeKeeper k = with(steps);
        is(was, k.path(0, x, k.count(0) - 1));
    }

    private void byDrift() {
        ahead("drift 7;", 9, 2);
        ahead("drift -7;", 9, 16);
        ahead("drift 0;", 9, 9);
        ahead("kink 0 5;drift 500;", 100000, 99500);
        ahead("kink 0 5;drift -500;", 100000, 100500);
        ahead("kink 0 5;drift 500;", -100000, -100500);
        is(-120000, with("drift 500;".repeat(40)).path(0, -100000, 0));
    }

    private void whereLeast() {
        ahead("kink 0 5;move 2 4;", 4, 0);
        ahead("kink 0 5;move 2 4;", 5, 1);
        ahead("kink 0 5;move 2 4;", -2, 0);
        ahead("kink 0 5;move 2 4;", -3, -1);
        ahead("kink 0 5;move 0 0;", 9, 9);
        ahead("kink 0 5;move 99 99;", 99, 0);
        ahead("kink 0 5;move 99 99;", 100, 1);
        ahead("kink 0 5;move 99 99;", -100000, -99901);
        ahead("kink 4 5;rise;", 9, 4);
        ahead("kink 4 5;rise;", 4, 4);
        ahead("kink 4 5;rise;", 3, 3);
        ahead("kink 4 5;rise;", 100000, 4);
        ahead("kink 4 5;fall;", 9, 9);
        ahead("kink 4 5;fall;", 4, 4);
        ahead("kink 4 5;fall;", 3, 4);
        ahead("kink 4 5;fall;", -100000, 4);
    }

    private void nearest() {
        ahead("kink 0 5;kink 3 5;move 9 9;", 2, 2);
        ahead("kink 0 5;kink 3 5;move 9 9;", 7, 3);
        ahead("kink 0 5;kink 3 5;move 9 9;", -7, 0);
        ahead("kink 0 5;kink 3 5;rise;", 9, 3);
        ahead("kink 0 5;kink 3 5;rise;", 2, 2);
        ahead("kink 0 5;kink 3 5;rise;", -2, -2);
        ahead("kink 0 5;kink 3 5;fall;", -9, 0);
        ahead("kink 0 5;kink 3 5;fall;", 1, 1);
        ahead("kink 0 5;kink 3 5;fall;", 5, 5);
        ahead("plus 1;rise;", 77, 77);
        ahead("plus 1;fall;", -77, -77);
        ahead("plus 1;move 5 5;", 77, 77);
        ahead("over 0 1;rise;", 5, 0);
        ahead("over 0 1;rise;", -5, -5);
        ahead("under 0 1;rise;", 5, 5);
        ahead("under 0 1;fall;", -5, 0);
        ahead("under 0 1;fall;", 5, 5);
        ahead("over 0 1;fall;", 5, 5);
        ahead("over 0 1;move 9 9;", -5, -5);
        ahead("under 0 1;move 9 9;", 5, 5);
    }

    private void whereOneIs() {
        ahead("kink 0 5;kink 9 5;", 77, 77);
        ahead("kink 0 5;over 9 5;", 77, 77);
        ahead("kink 0 5;under 9 5;", -77, -77);
        ahead("kink 0 5;plus 9;", 77, 77);
        ahead("kink 0 5;and 1;", 77, 77);
    }

    private void paidIs(String steps, int x, long... paid) {
        SlopeKeeper k = new SlopeKeeper();
        k.does(1, KINK, 2, 7);
        k.does(1, PLUS, 3, 0);
        is(0, Due.text(k, 0, steps));
        long all = 0;
        for (int i = 0; i < paid.length; i++) {
            is(paid[i], k.paid(0, x, i));
            all += paid[i];
        }
        is(paid.length, k.count(0));
        is(all, k.at(0, x));
    }

    private void whatItAdds() {
        paidIs("kink 4 5;", 4, 0);
        paidIs("kink 4 5;", 6, 10);
        paidIs("kink 4 5;", 2, 10);
        paidIs("over 4 5;", 4, 0);
        paidIs("over 4 5;", 5, 5);
        paidIs("over 4 5;", 3, 0);
        paidIs("under 4 5;", 4, 0);
        paidIs("under 4 5;", 5, 0);
        paidIs("under 4 5;", 3, 5);
        paidIs("plus 9;", 3, 9);
        paidIs("and 1;", 4, 17);
        paidIs("kink 0 5;drift 10;kink 12 3;", 12, 10, 0, 0);
        paidIs("kink 0 1;move 1 1;and 1;over 5 9;", 6, 5, 0, 31, 9);
        paidIs("kink -500 99;", 100000, 99 * 100500);
    }

    private void nothing() {
        paidIs("drift 7;move 1 1;rise;fall;", 50, 0, 0, 0, 0);
        paidIs("kink 0 5;drift 7;", 50, 215, 0);
        paidIs("kink 0 5;move 1 1;", 50, 245, 0);
        paidIs("kink 0 5;rise;", 50, 0, 0);
        paidIs("kink 0 5;rise;", -50, 250, 0);
        paidIs("kink 0 5;fall;", 50, 250, 0);
        paidIs("kink 0 5;fall;", -50, 0, 0);
    }

    private void allTogether() {
        SlopeKeeper k = with("", "kink -3 4;plus 2;", "kink 5 3;move 2 3;drift -4;over 9 7;under -9 2;rise;kink 1 1;fall;and 1;plus 3;");
        for (int x : new int[] {-100000, -40, -9, -3, 0, 1, 6, 9, 40, 100000}) {
            long all = 0;
            for (int i = 0; i < 10; i++) {
                all += k.paid(2, x, i);
            }
            is(k.at(2, x), all);
        }
    }

    private void stretchIs(String steps, int x, int way) {
        is(way, with(steps).stretch(0, x));
    }

    private void stretch() {
        stretchIs("", 7, 0);
        stretchIs("kink 0 5;plus 3;over 1 1;", 7, 0);
        stretchIs("drift 7;", 7, 7);
        stretchIs("drift -7;", 7, 7);
        stretchIs("drift 7;drift -7;", 7, 14);
        stretchIs("kink 0 5;move 3 3;drift -10;move 2 2;plus 1;", -10, 10);
        stretchIs("kink 0 5;move 3 3;drift -10;move 2 2;plus 1;", 0, 15);
        stretchIs("kink 0 5;move 3 3;drift -10;move 2 2;plus 1;", -40, 15);
        stretchIs("kink 4 5;rise;", 9, 5);
        stretchIs("kink 4 5;rise;", 3, 0);
        stretchIs("kink 4 5;fall;", -9, 13);
        stretchIs("kink 500 5;fall;", -100000, 100500);
        stretchIs("drift 500;".repeat(40), 100000, 20000);
    }

    private void path() {
        SlopeKeeper k = with("kink 0 5;move 1 2;drift 10;rise;");
        int[] places = {0, 0, 2, 12, 15};
        for (int steps = 0; steps <= 4; steps++) {
            is(places[steps], k.path(0, 15, steps));
        }
        is(7, k.path(1, 7, 0));
        SlopeKeeper full = with("drift 1;".repeat(40));
        is(0, full.path(0, 40, 0));
        is(39, full.path(0, 40, 39));
        is(40, full.path(0, 40, 40));
    }

    private void noSuchPath() {
        SlopeKeeper k = with("kink 0 5;rise;");
        noSuchCosts(cost -> k.path(cost, 0, 0));
        for (int steps : new int[] {-1, 3, MIN, MAX}) {
            noSuch(() -> k.path(0, 0, steps));
            noSuch(() -> k.path(0, 100001, steps));
            changesNothing(mixed -> mixed.path(2, 0, steps));
        }
        noSuch(() -> k.path(1, 0, 1));
        is(7, k.path(1, 7, 0));
        is(7, k.path(0, 7, 2));
    }

    private void pathIllegal() {
        SlopeKeeper k = with("kink 0 5;rise;");
        illegalXs(x -> k.path(0, x, 0));
        illegalXs(x -> k.path(0, x, 2));
        for (int x : NO_XS) {
            noSuch(() -> k.path(4, x, 0));
            changesNothing(mixed -> mixed.path(0, x, 0));
        }
    }

    private void paid() {
        SlopeKeeper k = with("kink 0 5;move 1 2;drift 10;under 20 3;plus 8;");
        int[] paid = {15, 0, 0, 15, 8};
        for (int i = 0; i < paid.length; i++) {
            is(paid[i], k.paid(0, 15, i));
        }
        is(5L * 89988, k.paid(0, 90000, 0));
    }

    private void noSuchPaid() {
        SlopeKeeper k = with("kink 0 5;rise;", "rise;", "rise;", "rise;");
        noSuchCosts(cost -> k.paid(cost, 0, 0));
        for (int i : new int[] {-1, 2, MIN, MAX}) {
            noSuch(() -> k.paid(0, 0, i));
            noSuch(() -> k.paid(0, 100001, i));
            changesNothing(mixed -> mixed.paid(2, 0, i));
        }
        noSuch(() -> new SlopeKeeper().paid(0, 0, 0));
    }

    private void paidIllegal() {
        SlopeKeeper k = with("kink 0 5;rise;");
        illegalXs(x -> k.paid(0, x, 0));
        illegalXs(x -> k.paid(0, x, 1));
        for (int x : NO_XS) {
            noSuch(() -> k.paid(4, x, 0));
            changesNothing(mixed -> mixed.paid(0, x, 0));
        }
    }

    private void stretchOfEach() {
        SlopeKeeper k = with("drift 1;", "drift 2;drift 3;", "kink 4 5;rise;");
        int[] ways = {1, 5, 6, 0};
        for (int cost = 0; cost < 4; cost++) {
            is(ways[cost], k.stretch(cost, 10));
        }
    }

    private void stretchIllegal() {
        SlopeKeeper k = with("kink 0 5;rise;");
        illegalXs(x -> k.stretch(0, x));
        for (int x : NO_XS) {
            noSuch(() -> k.stretch(4, x));
            changesNothing(mixed -> mixed.stretch(0, x));
        }
    }
}
