/** Terms 3: years by a seed; promise 37. */
final class YearEdges extends Edges {
    private static final int[] SEEDS = {0, 1, 2, 3, 4, 5, 77, -1, -2, 12345, -12345, 1 << 30, MIN, MIN + 1, MAX, MAX - 1};

    /** The seed as the latest draw left it, as a number without a sign. */
    private long seed;

    YearEdges(Book book, Due due) {
        super(book, due);
    }

    @Override
    void all() {
        part("Terms 3");
        tells("YEARS by a seed: n times (0 to 20), COST 0 going on:", this::years);
        tells("a DRAW of 8: 0 to 3 'kink', 'over', 'under', 'under', a DRAW of 101, less 50, a DRAW of 10;", () -> kinds(0, 3));
        tells("4 'drift', a DRAW of 21, less 10;", () -> kinds(4, 4));
        tells("5 'move', a DRAW of 6, a DRAW of 6;", () -> kinds(5, 5));
        tells("6 'rise';", () -> kinds(6, 6));
        tells("7 'plus', a DRAW of 10;", () -> kinds(7, 7));
        tells("what is TOO MUCH is left out", this::leftOut);
        tells("(STEPS may be more than 40):", this::moreThanForty);
        tells("LEAST then; KINKS then; f(0) then.", this::then);
        tells("A seed becomes itself times 1103515245 and 12345 (an int that wraps);", this::seeds);
        tells("a DRAW of n is its bits 16 to 30 MOD n then.", this::draws);
        part("Promise 37");
        tells("YEARS: LEAST (what 0), KINKS (1), f(0) (2).", this::then);
        tells("NoSuchElementException: another what.", this::noSuchYears);
        tells("IllegalArgumentException (behind that): n.", this::yearsIllegal);
    }

    private int draw(int n) {
        seed = (seed * 1103515245L + 12345L) % (1L << 32);
        return (int) (seed / (1L << 16) % (1L << 15) % n);
    }

    private void start(int from) {
        seed = from < 0 ? from + (1L << 32) : from;
    }

    /** What a year draws, as the numbers of does. */
    private int[] drawn() {
        int kind = new int[] {KINK, OVER, UNDER, UNDER, DRIFT, MOVE, RISE, PLUS}[draw(8)];
        switch (kind) {
            case KINK:
            case OVER:
            case UNDER:
                return new int[] {kind, draw(101) - 50, draw(10)};
            case DRIFT:
                return new int[] {kind, draw(21) - 10, 0};
            case MOVE:
                return new int[] {kind, draw(6), draw(6)};
            case PLUS:
                return new int[] {kind, draw(10), 0};
            default:
                return new int[] {kind, 0, 0};
        }
    }

    /** The steps are told to another one with the same cost 0, which refuses what is too much. */
    private void sameAsTold(SlopeKeeper k, SlopeKeeper other, int from, int n) {
        start(from);
        for (int i = 0; i < n; i++) {
            int[] step = drawn();
            other.does(0, step[0], step[1], step[2]);
        }
        is(other.least(0), k.years(from, n, 0));
        is(other.flat(0, 3), k.years(from, n, 1));
        is(other.at(0, 0), k.years(from, n, 2));
    }

    private void years() {
        String steps = "kink 3 2;under 7 4;plus 6;";
        for (int from : SEEDS) {
            SlopeKeeper k = with(steps);
            for (int n = 0; n <= 20; n++) {
                sameAsTold(k, with(steps), from, n);
            }
            is(steps, Due.told(k, 0));
            is(1, k.count(4));
            is(14, k.least(0));
        }
        changesNothing(mixed -> mixed.years(7, 20, 0));
        is(9, with("plus 9;", "plus 100;").years(5, 0, 0));
    }

    /** The first seeds whose first year is of one of these. */
    private void kinds(int first, int last) {
        for (int kind = first; kind <= last; kind++) {
            int seen = 0;
            for (int from = -100; from < 4000 && seen < 60; from++) {
                start(from);
                if (draw(8) == kind) {
                    seen++;
                    String steps = "kink 3 2;kink 9 2;kink -9 1;";
                    sameAsTold(with(steps), with(steps), from, 1);
                    sameAsTold(with(steps), with(steps), from, 2);
                }
            }
            is(60, seen);
        }
    }

    private void leftOut() {
        String heavy = "kink 0 99;".repeat(25) + "kink 1 24;";
        String far = "kink 500 1;" + "drift 500;".repeat(8) + "drift 498;";
        for (int from : SEEDS) {
            sameAsTold(with(heavy), with(heavy), from, 14);
            sameAsTold(with(far), with(far), from, 20);
            SlopeKeeper k = dearNear();
            SlopeKeeper other = dearNear();
            sameAsTold(k, other, from, 20);
        }
        SlopeKeeper full = heavyAsCanBe();
        int refused = 0;
        for (int from = 0; from < 30; from++) {
            start(from);
            int[] step = drawn();
            if (step[0] <= UNDER && step[2] > 0) {
                refused++;
                is(1, full.years(from, 1, 1));
                is(0, full.years(from, 1, 0));
            }
        }
        is(1, refused > 3 ? 1 : 0);
    }

    /** Its cost 0 costs 99999995 at the least. */
    private SlopeKeeper dearNear() {
        SlopeKeeper k = dearAsCanBe();
        reads(k, 3, "and 2;and 2;and 2;and 2;");
        reads(k, 2, "and 1;".repeat(39));
        reads(k, 0, "plus 999;".repeat(33) + "plus 366;");
        reads(k, 1, "and 0;".repeat(15));
        reads(k, 0, "and 3;and 2;and 1;");
        is(99999995, k.least(0));
        return k;
    }

    private void moreThanForty() {
        String forty = "plus 1;".repeat(40);
        for (int from : SEEDS) {
            sameAsTold(with(forty), with("plus 40;"), from, 20);
        }
        SlopeKeeper k = with(forty);
        k.years(1, 20, 0);
        is(40, k.count(0));
    }

    private void then() {
        SlopeKeeper k = with("kink 3 2;plus 5;");
        is(5, k.years(1, 0, 0));
        is(1, k.years(1, 0, 1));
        is(11, k.years(1, 0, 2));
        int[][] then = {{0, 1, 6}, {0, 1, 6}, {0, 1, 6}, {11, 2, 14}, {41, 3, 311}, {41, 3, 331}, {41, 4, 281}};
        SlopeKeeper known = with("kink 3 2;");
        for (int n = 0; n < then.length; n++) {
            for (int what = 0; what < 3; what++) {
                is(then[n][what], known.years(1, n, what));
            }
        }
    }

    private void seeds() {
        SlopeKeeper k = with("kink 3 2;");
        for (int from : SEEDS) {
            sameAsTold(k, with("kink 3 2;"), from, 3);
        }
        for (int bit = 0; bit < 32; bit++) {
            sameAsTold(with("kink 3 2;"), with("kink 3 2;"), 1 << bit, 20);
        }
    }

    private void draws() {
        for (int from = -200; from < 200; from++) {
            sameAsTold(with("kink 3 2;"), with("kink 3 2;"), from * 10737419, 8);
        }
    }

    private void noSuchYears() {
        SlopeKeeper k = with("kink 3 2;");
        for (int what : new int[] {-1, 3, MIN, MAX}) {
            noSuch(() -> k.years(1, 1, what));
            noSuch(() -> k.years(1, 21, what));
            noSuch(() -> k.years(1, -1, what));
            changesNothing(mixed -> mixed.years(1, 1, what));
        }
    }

    private void yearsIllegal() {
        SlopeKeeper k = with("kink 3 2;");
        for (int n : new int[] {-1, 21, MIN, MAX}) {
            for (int what = 0; what < 3; what++) {
                int one = what;
                illegal(() -> k.years(1, n, one));
            }
            changesNothing(mixed -> mixed.years(1, n, 0));
        }
        is(0, k.years(1, 0, 0));
        is(k.years(1, 20, 0), Due.answerOf(() -> k.years(1, 20, 0)));
    }
}
