/** Terms 3: split, shared, leads, against, meet, gap, alike; promises 15 to 17, 19 to 21, 25, 26. */
final class PairEdges extends Edges {
    private static final String UNDER_5000 = "under 500 1;" + "drift 500;".repeat(9);
    private static final String OVER_MINUS_5000 = "over -500 1;" + "drift -500;".repeat(9);

    PairEdges(Book book, Due due) {
        super(book, due);
    }

    @Override
    void all() {
        part("Terms 3");
        tells("SPLIT of two COSTS f, g", this::split);
        tells("(one perhaps)", this::splitOfOne);
        tells("at x: the least of f(y) and g(x less y) for any y;", this::splitForAny);
        tells("where: that y which is nearest to 0.", this::where);
        tells("GAP of two COSTS: the greatest of what f and g are apart", this::gap);
        tells("at any x from -500 to 500.", this::gapFromTo);
        tells("ALIKE: whether f and g are the same at any x.", this::alike);
        tells("SHARED by a set of COSTS (bits, 1 to 15) at x:", this::sharedSets);
        tells("the least of f(y) of each of them together, for any y that are x together.", this::sharedForAny);
        tells("LEADS of a COST f on another one g", this::leads);
        tells("(or itself):", this::leadsItself);
        tells("how many x from -500 to 500 there are where f(x) is less than g(x);", this::leadsFromTo);
        tells("the first of these; none.", this::leadsFirst);
        tells("AGAINST a SLOPE s (-200 to 200):", this::againstSlopes);
        tells("the greatest of s times x less f(x), for any x;", this::against);
        tells("none, if it has no bound;", this::againstNoBound);
        tells("where: that x which is nearest to 0.", this::againstWhere);
        tells("MEET of two COSTS: that x from -1000 to 1000 where f(x) is g(x)", this::meetFromTo);
        tells("which is nearest to 0 (of like ones that below 0);", this::meetNearest);
        tells("none.", this::meetNone);
        part("Promise 15");
        tells("SPLIT at x: how much.", this::split);
        tells("NoSuchElementException.", this::noSuchSplit);
        tells("IllegalArgumentException: x.", this::splitIllegal);
        part("Promise 16");
        tells("SPLIT at x: where.", this::where);
        tells("NoSuchElementException.", this::noSuchWhere);
        tells("IllegalArgumentException: x.", this::whereIllegal);
        part("Promise 17");
        tells("SHARED at x.", this::sharedSets);
        tells("IllegalArgumentException: not 1 to 15; x.", this::sharedIllegal);
        part("Promise 19");
        tells("LEADS: how many (what 0), the first (1; NOWHERE).", this::leadsAnswers);
        tells("NoSuchElementException: also another what.", this::noSuchLeads);
        part("Promise 20");
        tells("AGAINST a SLOPE: how much (what 0; NOWHERE), where (1; NOWHERE).", this::againstAnswers);
        tells("NoSuchElementException: also another what.", this::noSuchAgainst);
        tells("IllegalArgumentException (behind that): the SLOPE.", this::againstIllegal);
        part("Promise 21");
        tells("MEET; NOWHERE: none.", this::meetAnswers);
        tells("NoSuchElementException.", this::noSuchMeet);
        part("Promise 25");
        tells("GAP.", this::gapBothWays);
        tells("NoSuchElementException.", this::noSuchGap);
        part("Promise 26");
        tells("ALIKE (1).", this::alikeAnswers);
        tells("NoSuchElementException.", this::noSuchAlike);
    }

    private void split() {
        SlopeKeeper k = with("kink 3 2;plus 4;", "kink 10 5;plus 6;");
        is(10, k.split(0, 1, 13));
        is(12, k.split(0, 1, 14));
        is(12, k.split(0, 1, 12));
        is(12, k.split(1, 0, 14));
        is(10 + 2 * 99987, k.split(0, 1, 100000));
        is(10 + 2 * 100013, k.split(0, 1, -100000));
        is(4, k.split(0, 2, 77));
        is(0, k.split(2, 3, 77));
        SlopeKeeper sides = with("kink 0 1;over 5 9;", "kink 0 2;over 5 9;under -5 1;");
        is(5, sides.split(0, 1, 5));
        is(5 + 2, sides.split(0, 1, 6));
        is(5 + 10, sides.split(0, 1, 10));
        is(15 + 10, sides.split(0, 1, 11));
        is(50, sides.split(0, 1, -50));
    }

    private void splitOfOne() {
        SlopeKeeper k = with("kink 3 2;", "over 0 1;");
        is(0, k.split(0, 0, 6));
        is(8, k.split(0, 0, 10));
        is(24, k.split(0, 0, -6));
        is(3, k.where(0, 0, 6));
        is(3, k.where(0, 0, 10));
        is(0, k.where(0, 0, -6));
        is(1, k.where(0, 0, 4));
        is(7, k.split(1, 1, 7));
        is(0, k.split(1, 1, -7));
        is(0, k.where(1, 1, -7));
    }

    private void splitForAny() {
        SlopeKeeper k = with(UNDER_5000, OVER_MINUS_5000);
        is(0, k.split(0, 1, 100000));
        is(0, k.split(0, 1, -100000));
        is(0, k.split(1, 0, 100000));
        is(105000, k.where(0, 1, 100000));
        is(-105000, k.where(1, 0, -100000));
        is(5000, k.where(0, 1, -100000));
        is(-5000, k.where(1, 0, 100000));
    }

    private void where() {
        SlopeKeeper k = with("kink 3 2;", "kink 10 5;", "kink -9 1;kink 9 1;");
        is(3, k.where(0, 1, 13));
        is(4, k.where(0, 1, 14));
        is(2, k.where(0, 1, 12));
        is(10, k.where(1, 0, 14));
        is(-100010, k.where(0, 1, -100000));
        is(99990, k.where(0, 1, 100000));
        is(0, k.where(2, 3, 77));
        is(0, k.where(3, 2, 5));
        is(1, k.where(3, 2, 10));
        is(-1, k.where(3, 2, -10));
        is(0, k.where(2, 2, 9));
        is(1, k.where(2, 2, 10));
        is(9, k.where(2, 2, 18));
        is(-9, k.where(2, 2, -18));
        is(-9, k.where(2, 0, -10));
    }

    private void gap() {
        SlopeKeeper k = with("kink 0 1;", "plus 10;", "over 0 1;under 0 1;", "kink 100 1;");
        is(490, k.gap(0, 1));
        is(490, k.gap(1, 0));
        is(0, k.gap(0, 2));
        is(0, k.gap(3, 3));
        is(100, k.gap(0, 3));
        is(10, with("plus 10;").gap(0, 1));
        SlopeKeeper middle = with("kink 0 2;", "under 0 1;over 0 1;kink -250 1;", "plus 7;under 7 1;fall;");
        is(250, middle.gap(0, 1));
        is(993, middle.gap(0, 2));
    }

    private void gapFromTo() {
        is(0, with("over 500 9;").gap(0, 1));
        is(9, with("over 499 9;").gap(0, 1));
        is(0, with("under -500 9;").gap(0, 1));
        is(9, with("under -499 9;").gap(1, 0));
        is(500 * 2500, heavyAsCanBe().gap(0, 1));
        is(1000 + 2500, with("over -500 1;over 0 5;").gap(0, 1));
        is(1100 + 2500, with("over -500 1;drift -100;over 0 5;").gap(0, 1));
        is(2100 + 2500 + 9, with("over -500 1;over -400 1;drift -100;over 0 5;over 499 9;over 500 9;").gap(0, 1));
    }

    private void alike() {
        SlopeKeeper k = with("kink 0 1;", "over 0 1;under 0 1;", "kink 0 1;plus 1;", "kink 0 1;drift 0;over 500 0;");
        is(1, k.alike(0, 1));
        is(0, k.alike(0, 2));
        is(1, k.alike(0, 3));
        is(1, k.alike(2, 2));
        SlopeKeeper far = with("over 500 1;", "over 499 1;", "under 500 1;", "over 500 2;");
        is(0, far.alike(0, 1));
        is(0, far.alike(0, 2));
        is(0, far.alike(0, 3));
        SlopeKeeper rest = farAsCanBe();
        is(0, rest.alike(0, 1));
        reads(rest, 1, "over 500 1;" + "drift 500;".repeat(9));
        is(0, rest.alike(1, 2));
        is(0, rest.alike(0, 1));
        rest.does(0, FALL, 0, 0);
        is(1, rest.alike(0, 1));
    }

    private SlopeKeeper fourKinks() {
        return with("kink 3 2;", "kink 10 5;", "kink -1 3;plus 4;", "kink 6 4;plus 1;");
    }

    private void sharedSets() {
        SlopeKeeper k = fourKinks();
        is(14, k.shared(1, 10));
        is(0, k.shared(2, 10));
        is(5, k.shared(2, 11));
        is(37, k.shared(4, 10));
        is(17, k.shared(8, 10));
        is(0, k.shared(3, 13));
        is(4, k.shared(5, 2));
        is(4, k.shared(6, 9));
        is(1, k.shared(9, 9));
        is(1, k.shared(10, 16));
        is(5, k.shared(12, 5));
        is(4, k.shared(7, 12));
        is(1, k.shared(11, 19));
        is(5, k.shared(13, 8));
        is(5, k.shared(14, 15));
        is(5, k.shared(15, 18));
        is(7, k.shared(15, 19));
        is(7, k.shared(15, 17));
        is(8, k.shared(14, 16));
    }

    private void sharedForAny() {
        SlopeKeeper k = fourKinks();
        is(5 + 2 * 99982, k.shared(15, 100000));
        is(5 + 2 * 100018, k.shared(15, -100000));
        is(5 + 3 * 99985, k.shared(14, 100000));
        SlopeKeeper far = with(UNDER_5000, OVER_MINUS_5000, "kink 500 99;", "kink -500 99;");
        is(0, far.shared(3, 100000));
        is(0, far.shared(3, -100000));
        is(0, far.shared(15, 100000));
        is(0, far.shared(15, -100000));
        is(0, new SlopeKeeper().shared(15, 100000));
        SlopeKeeper bounds = with("kink 0 1;over 5 9;under -5 9;", "kink 0 2;over 5 9;under -5 9;", "kink 0 3;over 5 9;under -5 9;");
        reads(bounds, 3, "kink 0 10;");
        is(5 + 10 + 15, bounds.shared(15, 15));
        is(5 + 10 + 15 + 10, bounds.shared(15, 16));
        is(5 + 10 + 15 + 10 + 10, bounds.shared(15, -17));
    }

    private void leads() {
        SlopeKeeper k = with("kink 0 1;", "plus 10;");
        is(19, k.leads(0, 1, 0));
        is(980, k.leads(1, 0, 0));
        is(-9, k.leads(0, 1, 1));
        is(-500, k.leads(1, 0, 1));
        is(1001, k.leads(2, 1, 0));
        is(1, with("kink 7 1;", "plus 1;").leads(0, 1, 0));
    }

    private void leadsItself() {
        SlopeKeeper k = with("kink 0 1;");
        for (int cost = 0; cost < 2; cost++) {
            is(0, k.leads(cost, cost, 0));
            is(NOWHERE, k.leads(cost, cost, 1));
        }
    }

    private void leadsFromTo() {
        leadIs("over 499 1;", 1, 500);
        leadIs("over 500 1;", 0, NOWHERE);
        leadIs("under -499 1;", 1, -500);
        leadIs("under -500 1;", 0, NOWHERE);
        leadIs("plus 1;", 1001, -500);
        leadIs("kink 500 1;", 1000, -500);
        leadIs("kink -500 1;", 1000, -499);
    }

    /** Of cost 1, which costs nothing, on cost 0. */
    private void leadIs(String steps, int many, int first) {
        SlopeKeeper k = with(steps);
        is(many, k.leads(1, 0, 0));
        is(first, k.leads(1, 0, 1));
        is(0, k.leads(0, 1, 0));
    }

    private void leadsFirst() {
        leadIs("over 77 1;", 423, 78);
        leadIs("kink -500 0;over 0 1;under 0 1;", 1000, -500);
        leadIs("over -500 1;", 1000, -499);
        leadIs("plus 0;", 0, NOWHERE);
        is(-3, with("kink 0 1;", "plus 4;").leads(0, 1, 1));
        SlopeKeeper k = with("over -500 1;over -100 5;", "over -500 1;drift -3;plus 1;over -100 3;over 250 9;");
        is(-97, k.leads(1, 0, 1));
        is(447, k.leads(1, 0, 0));
        is(-500, k.leads(0, 1, 1));
        is(553, k.leads(0, 1, 0));
    }

    private void againstSlopes() {
        SlopeKeeper k = with("over 3 99;over 3 99;over 3 2;", "under -3 99;under -3 99;under -3 2;");
        is(600, k.against(0, 200, 0));
        is(3, k.against(0, 200, 1));
        is(600, k.against(1, -200, 0));
        is(-3, k.against(1, -200, 1));
        illegal(() -> k.against(0, 201, 0));
        illegal(() -> k.against(1, -201, 0));
    }

    private void against() {
        SlopeKeeper k = with("kink 4 3;plus 5;", "kink 500 99;");
        is(-5, k.against(0, 0, 0));
        is(4 - 5, k.against(0, 1, 0));
        is(-4 - 5, k.against(0, -1, 0));
        is(12 - 5, k.against(0, 3, 0));
        is(-12 - 5, k.against(0, -3, 0));
        is(99 * 500, k.against(1, 99, 0));
        is(-99 * 500, k.against(1, -99, 0));
        is(0, k.against(2, 0, 0));
        SlopeKeeper far = farAsCanBe();
        is(5000, far.against(0, 1, 0));
        is(-5000, far.against(0, -1, 0));
        is(0, far.against(0, 0, 0));
        is(-100000000, dearAsCanBe().against(3, 0, 0));
    }

    private void againstNoBound() {
        SlopeKeeper k = with("kink 4 3;", "over 4 3;", "under 4 3;");
        int[][] bounds = {{-3, 3}, {0, 3}, {-3, 0}, {0, 0}};
        for (int cost = 0; cost < 4; cost++) {
            for (int what = 0; what < 2; what++) {
                is(NOWHERE, k.against(cost, bounds[cost][0] - 1, what));
                is(NOWHERE, k.against(cost, bounds[cost][1] + 1, what));
                is(NOWHERE, k.against(cost, -200, what));
                is(NOWHERE, k.against(cost, 200, what));
                is(1, k.against(cost, bounds[cost][0], what) > NOWHERE ? 1 : 0);
                is(1, k.against(cost, bounds[cost][1], what) > NOWHERE ? 1 : 0);
            }
        }
    }

    private void againstWhere() {
        SlopeKeeper k = with("kink 4 3;", "kink -4 3;", "over -8 2;over 9 2;under -20 1;", "over 5 2;over 9 2;");
        int[][] places = {{0, 3, 4}, {0, -3, 0}, {0, 0, 4}, {1, 3, 0}, {1, -3, -4}, {1, 2, -4}, {2, 2, 0}, {2, 0, -8}, {2, 1, -8}, {2, 3, 9},
            {2, -1, -20}, {3, 2, 5}, {3, 0, 0}, {3, 4, 9}};
        for (int[] at : places) {
            is(at[2], k.against(at[0], at[1], 1));
        }
        is(0, new SlopeKeeper().against(0, 0, 1));
        is(5000, farAsCanBe().against(0, 1, 1));
        is(0, farAsCanBe().against(0, -1, 1));
    }

    private void meetFromTo() {
        SlopeKeeper k = with("kink 0 1;", "plus 999;plus 1;", "kink 0 1;over 0 5;", "kink 0 1;under 0 5;");
        is(-1000, k.meet(0, 1));
        is(-1000, k.meet(2, 1));
        is(1000, k.meet(3, 1));
        k.does(1, PLUS, 1, 0);
        is(NOWHERE, k.meet(0, 1));
        SlopeKeeper far = with("over -500 1;drift -500;over 0 4;", "plus 999;plus 501;", "over -500 1;drift -500;drift -100;over 0 4;");
        is(100, far.meet(0, 1));
        is(80, far.meet(2, 1));
    }

    private void meetNearest() {
        SlopeKeeper k = with("kink 0 1;", "plus 10;", "kink 2 1;", "kink -2 1;");
        is(-10, k.meet(0, 1));
        is(-10, k.meet(1, 0));
        is(-8, k.meet(1, 2));
        is(8, k.meet(1, 3));
        is(0, k.meet(2, 3));
        is(1, k.meet(0, 2));
        is(-1, k.meet(0, 3));
        is(0, k.meet(0, 0));
        is(3, with("over 3 5;", "under 3 5;").meet(0, 1));
    }

    private void meetNone() {
        SlopeKeeper k = with("plus 1;", "kink 0 1;plus 2;", "kink 0 2;plus 1;", "kink 1 2;");
        is(NOWHERE, k.meet(0, 1));
        is(0, k.meet(0, 2));
        is(NOWHERE, k.meet(0, 3));
        is(NOWHERE, with("plus 1;").meet(0, 1));
    }

    private void noSuchSplit() {
        SlopeKeeper k = new SlopeKeeper();
        noSuchCosts(cost -> k.split(cost, 0, 0));
        noSuchCosts(cost -> k.split(0, cost, 0));
    }

    private void splitIllegal() {
        SlopeKeeper k = with("kink 3 2;");
        illegalXs(x -> k.split(0, 1, x));
        for (int x : NO_XS) {
            noSuch(() -> k.split(4, 0, x));
            noSuch(() -> k.split(0, -1, x));
            changesNothing(mixed -> mixed.split(0, 1, x));
        }
    }

    private void noSuchWhere() {
        SlopeKeeper k = new SlopeKeeper();
        noSuchCosts(cost -> k.where(cost, 0, 0));
        noSuchCosts(cost -> k.where(0, cost, 0));
    }

    private void whereIllegal() {
        SlopeKeeper k = with("kink 3 2;");
        illegalXs(x -> k.where(0, 1, x));
        for (int x : NO_XS) {
            noSuch(() -> k.where(4, 0, x));
            noSuch(() -> k.where(0, -1, x));
            changesNothing(mixed -> mixed.where(0, 1, x));
        }
    }

    private void sharedIllegal() {
        SlopeKeeper k = with("kink 3 2;");
        for (int set : new int[] {0, 16, 17, -1, MIN, MAX}) {
            illegal(() -> k.shared(set, 0));
            illegal(() -> k.shared(set, 100001));
            changesNothing(mixed -> mixed.shared(set, 0));
        }
        illegalXs(x -> k.shared(1, x));
        illegalXs(x -> k.shared(15, x));
    }

    private void leadsAnswers() {
        SlopeKeeper k = with("kink 77 1;", "plus 3;");
        is(5, k.leads(0, 1, 0));
        is(75, k.leads(0, 1, 1));
        is(0, k.leads(1, 2, 0));
        is(NOWHERE, k.leads(1, 2, 1));
    }

    private void noSuchLeads() {
        SlopeKeeper k = new SlopeKeeper();
        noSuchCosts(cost -> k.leads(cost, 0, 0));
        noSuchCosts(cost -> k.leads(0, cost, 1));
        for (int what : new int[] {-1, 2, MIN, MAX}) {
            noSuch(() -> k.leads(0, 1, what));
            changesNothing(mixed -> mixed.leads(0, 1, what));
        }
    }

    private void againstAnswers() {
        SlopeKeeper k = with("kink 4 3;plus 5;");
        is(3, k.against(0, 2, 0));
        is(4, k.against(0, 2, 1));
        is(NOWHERE, k.against(0, 4, 0));
        is(NOWHERE, k.against(0, 4, 1));
    }

    private void noSuchAgainst() {
        SlopeKeeper k = new SlopeKeeper();
        noSuchCosts(cost -> k.against(cost, 0, 0));
        for (int what : new int[] {-1, 2, MIN, MAX}) {
            noSuch(() -> k.against(0, 0, what));
            noSuch(() -> k.against(0, 201, what));
            changesNothing(mixed -> mixed.against(0, 0, what));
        }
    }

    private void againstIllegal() {
        SlopeKeeper k = with("kink 4 3;");
        for (int slope : new int[] {-201, 201, MIN, MAX}) {
            illegal(() -> k.against(0, slope, 0));
            illegal(() -> k.against(0, slope, 1));
            noSuch(() -> k.against(4, slope, 0));
            changesNothing(mixed -> mixed.against(0, slope, 0));
        }
        is(NOWHERE, k.against(0, 200, 0));
        is(NOWHERE, k.against(0, -200, 0));
    }

    private void meetAnswers() {
        SlopeKeeper k = with("kink 4 3;", "plus 3;", "plus 4;");
        is(3, k.meet(0, 1));
        is(NOWHERE, k.meet(0, 2));
    }

    private void noSuchMeet() {
        SlopeKeeper k = new SlopeKeeper();
        noSuchCosts(cost -> k.meet(cost, 0));
        noSuchCosts(cost -> k.meet(0, cost));
    }

    private void gapBothWays() {
        SlopeKeeper k = with("plus 3;", "plus 10;");
        is(7, k.gap(0, 1));
        is(7, k.gap(1, 0));
        is(3, k.gap(0, 2));
        is(0, k.gap(0, 0));
    }

    private void noSuchGap() {
        SlopeKeeper k = new SlopeKeeper();
        noSuchCosts(cost -> k.gap(cost, 0));
        noSuchCosts(cost -> k.gap(0, cost));
    }

    private void alikeAnswers() {
        SlopeKeeper k = with("plus 3;", "plus 1;plus 2;");
        is(1, k.alike(0, 1));
        is(1, k.alike(1, 0));
        is(0, k.alike(0, 2));
        is(1, k.alike(2, 3));
    }

    private void noSuchAlike() {
        SlopeKeeper k = new SlopeKeeper();
        noSuchCosts(cost -> k.alike(cost, 0));
        noSuchCosts(cost -> k.alike(0, cost));
    }
}
