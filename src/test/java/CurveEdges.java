/** The constants; Terms 2: slopes, kinks, the best end; Terms 3: off; promises 6 to 11 and 14. */
final class CurveEdges extends Edges {
    CurveEdges(Book book, Due due) {
        super(book, due);
    }

    @Override
    void all() {
        part("Constants");
        tells("`NONE = -1`: There is none.", () -> is(-1, SlopeKeeper.NONE));
        tells("`NOWHERE = -10000000`: There is no such place.", () -> is(-10000000, SlopeKeeper.NOWHERE));
        part("Terms 2");
        tells("SLOPES at x: f(x) less f(x less 1), and f(x and 1) less f(x).", this::slopes);
        tells("KINK i: the i-th place (0 on) and its WEIGHT (the one slope less the other one).", this::kinkByNumber);
        tells("The BEST END is that x of the FLAT which is nearest to 0.", this::bestEnd);
        part("Terms 3");
        tells("OFF: the least, the greatest x where f is no more than LEAST and so much", this::offEnds);
        tells("(0 to 1000000);", this::offMuch);
        tells("none, if there is none such.", this::offNone);
        part("Promise 6");
        tells("Of the i-th STEP (0 on):", this::stepByNumber);
        tells("its kind (what 0), its first, second number (1, 2;", this::stepNumbers);
        tells("0 where it has none).", this::stepWithoutNumbers);
        tells("NoSuchElementException: also there is none, another what.", this::noSuchStep);
        part("Promise 7");
        tells("f(x).", this::at);
        tells("NoSuchElementException.", () -> noSuchCosts(cost -> new SlopeKeeper().at(cost, 0)));
        tells("IllegalArgumentException (behind that, as everywhere for x): not -100000 to 100000.", this::atIllegal);
        part("Promise 8");
        tells("LEAST.", this::least);
        tells("NoSuchElementException.", () -> noSuchCosts(cost -> new SlopeKeeper().least(cost)));
        part("Promise 9");
        tells("FLAT: from (what 0; NOWHERE), to (1; NOWHERE),", this::flatEnds);
        tells("BEST END (2),", this::flatBestEnd);
        tells("KINKS (3), all WEIGHTS together (4).", this::flatCounts);
        tells("NoSuchElementException: also another what.", this::noSuchFlat);
        part("Promise 10");
        tells("The i-th KINK (0 on): its place (what 0), its WEIGHT (1).", this::kink);
        tells("NoSuchElementException: also there is none, another what.", this::noSuchKink);
        part("Promise 11");
        tells("The SLOPE ahead of x (what 0), behind it (1).", this::slope);
        tells("NoSuchElementException: also another what.", this::noSuchSlope);
        tells("IllegalArgumentException.", this::slopeIllegal);
        part("Promise 14");
        tells("OFF by so much: the least x (what 0), the greatest one (1; NOWHERE).", this::off);
        tells("NoSuchElementException: also another what.", this::noSuchOff);
        tells("IllegalArgumentException (behind that): not 0 to 1000000.", this::offIllegal);
    }

    private void slopes() {
        SlopeKeeper k = with("kink 4 2;over 4 3;under -3 1;");
        for (int x : new int[] {-99999, -5, -4, -3, -2, 0, 3, 4, 5, 6, 99999}) {
            is(k.at(0, x) - k.at(0, x - 1), k.slope(0, x, 0));
            is(k.at(0, x + 1) - k.at(0, x), k.slope(0, x, 1));
        }
        is(-3, k.slope(0, -3, 0));
        is(-2, k.slope(0, -3, 1));
        is(-2, k.slope(0, 4, 0));
        is(5, k.slope(0, 4, 1));
        is(-3, k.slope(0, -100000, 0));
        is(-3, k.slope(0, -100000, 1));
        is(5, k.slope(0, 100000, 0));
        is(5, k.slope(0, 100000, 1));
        is(0, k.slope(1, 0, 0));
        is(0, k.slope(1, 0, 1));
    }

    private void kinkByNumber() {
        SlopeKeeper k = with("kink 4 2;over 4 3;under -3 1;kink 9 0;");
        is(2, k.flat(0, 3));
        is(-3, k.kink(0, 0, 0));
        is(1, k.kink(0, 0, 1));
        is(4, k.kink(0, 1, 0));
        is(7, k.kink(0, 1, 1));
        SlopeKeeper heavy = heavyAsCanBe();
        is(5000, heavy.kink(0, 0, 1));
        is(-2500, heavy.slope(0, 0, 0));
        is(2500, heavy.slope(0, 0, 1));
    }

    private void bestEndIs(String steps, int end) {
        is(end, with(steps).flat(0, 2));
    }

    private void bestEnd() {
        bestEndIs("", 0);
        bestEndIs("kink 7 1;", 7);
        bestEndIs("kink -7 1;", -7);
        bestEndIs("kink -9 1;kink -2 1;", -2);
        bestEndIs("kink 2 1;kink 9 1;", 2);
        bestEndIs("kink -2 1;kink 9 1;", 0);
        bestEndIs("kink -2 1;kink 0 1;", 0);
        bestEndIs("over 5 1;", 0);
        bestEndIs("over -5 1;", -5);
        bestEndIs("under 5 1;", 5);
        bestEndIs("under -5 1;", 0);
        is(5000, farAsCanBe().flat(0, 2));
    }

    private void offIs(String steps, int much, int least, int greatest) {
        SlopeKeeper k = with(steps);
        is(least, k.off(0, much, 0));
        is(greatest, k.off(0, much, 1));
    }

    private void offEnds() {
        offIs("over 5 2;under 0 3;", 0, 0, 5);
        offIs("over 5 2;under 0 3;", 1, 0, 5);
        offIs("over 5 2;under 0 3;", 2, 0, 6);
        offIs("over 5 2;under 0 3;", 3, -1, 6);
        offIs("over 5 2;under 0 3;", 6, -2, 8);
        offIs("kink 3 4;plus 500;", 3, 3, 3);
        offIs("kink 3 4;plus 500;", 4, 2, 4);
        offIs("kink 0 1;over 2 1;over 4 1;", 8, -8, 4);
        offIs("kink 0 1;over 2 1;over 4 1;", 9, -9, 5);
    }

    private void offMuch() {
        offIs("kink 7 1;", 0, 7, 7);
        offIs("kink 7 1;", 1000000, -999993, 1000007);
        offIs("kink 7 3;", 1000000, 7 - 333333, 7 + 333333);
        offIs("kink -500 1;", 1000000, -1000500, 999500);
        SlopeKeeper k = farAsCanBe();
        is(-995000, k.off(0, 1000000, 0));
        is(1005000, k.off(0, 1000000, 1));
        SlopeKeeper heavy = heavyAsCanBe();
        is(400, heavy.off(0, 1000000, 1));
        is(399, heavy.off(0, 999999, 1));
        for (int much : new int[] {-1, 1000001}) {
            illegal(() -> k.off(0, much, 0));
        }
    }

    private void offNone() {
        offIs("", 0, NOWHERE, NOWHERE);
        offIs("plus 5;", 1000000, NOWHERE, NOWHERE);
        offIs("over 5 2;", 4, NOWHERE, 7);
        offIs("under 5 2;", 4, 3, NOWHERE);
        offIs("kink 5 2;rise;", 4, 3, NOWHERE);
        offIs("kink 5 2;fall;", 4, NOWHERE, 7);
    }

    private void stepByNumber() {
        SlopeKeeper k = with("kink -3 2;move 4 5;drift -6;fall;");
        int[] kinds = {KINK, MOVE, DRIFT, FALL};
        for (int i = 0; i < kinds.length; i++) {
            is(kinds[i], k.step(0, i, 0));
        }
        SlopeKeeper full = with("rise;".repeat(39) + "fall;");
        is(FALL, full.step(0, 39, 0));
        is(RISE, full.step(0, 38, 0));
    }

    private void stepNumbers() {
        SlopeKeeper k = with("kink -3 2;over 500 99;under -500 1;drift -6;move 4 5;rise;fall;plus 999;and 3;");
        int[][] steps = {{-3, 2}, {500, 99}, {-500, 1}, {-6, 0}, {4, 5}, {0, 0}, {0, 0}, {999, 0}, {3, 0}};
        for (int i = 0; i < steps.length; i++) {
            is(i, k.step(0, i, 0));
            is(steps[i][0], k.step(0, i, 1));
            is(steps[i][1], k.step(0, i, 2));
        }
    }

    private void stepWithoutNumbers() {
        SlopeKeeper k = new SlopeKeeper();
        k.does(0, DRIFT, 7, 8);
        k.does(0, RISE, 7, 8);
        k.does(0, FALL, 7, 8);
        k.does(0, PLUS, 7, 8);
        k.does(0, AND, 2, 8);
        k.puts(0, 5, RISE, 7, 8);
        for (int i = 0; i < 6; i++) {
            is(0, k.step(0, i, 2));
        }
        is(0, k.step(0, 1, 1));
        is(0, k.step(0, 2, 1));
        is(0, k.step(0, 5, 1));
    }

    private void noSuchStep() {
        SlopeKeeper k = with("rise;rise;", "rise;rise;", "rise;rise;", "rise;rise;");
        noSuchCosts(cost -> k.step(cost, 0, 0));
        for (int i : new int[] {-1, 2, 39, 40, MIN, MAX}) {
            noSuch(() -> k.step(0, i, 0));
            changesNothing(mixed -> mixed.step(3, i, 0));
        }
        for (int what : new int[] {-1, 3, MIN, MAX}) {
            noSuch(() -> k.step(0, 1, what));
            changesNothing(mixed -> mixed.step(0, 0, what));
        }
        k.takes(0, 0);
        noSuch(() -> k.step(0, 1, 0));
        is(RISE, k.step(0, 0, 0));
        noSuch(() -> new SlopeKeeper().step(0, 0, 0));
    }

    private void at() {
        SlopeKeeper k = with("kink 3 2;plus 4;", "over -4 5;", "under 4 5;");
        is(4, k.at(0, 3));
        is(2 * 99997 + 4, k.at(0, 100000));
        is(2 * 100003 + 4, k.at(0, -100000));
        is(5 * 100004, k.at(1, 100000));
        is(0, k.at(1, -100000));
        is(5 * 100004, k.at(2, -100000));
        is(0, k.at(3, 100000));
        is(2500L * 100000, heavyAsCanBe().at(0, 100000));
    }

    private void atIllegal() {
        SlopeKeeper k = with("kink 3 2;");
        illegalXs(x -> k.at(0, x));
        for (int x : NO_XS) {
            noSuch(() -> k.at(4, x));
            changesNothing(mixed -> mixed.at(0, x));
        }
    }

    private void least() {
        SlopeKeeper k = with("kink 0 3;kink 10 2;", "plus 999;", "rise;");
        is(20, k.least(0));
        is(999, k.least(1));
        is(0, k.least(2));
        is(0, k.least(3));
        is(100000000, dearAsCanBe().least(3));
    }

    private void flatEnds() {
        SlopeKeeper k = with("kink -9 1;kink 4 1;", "over 5 2;", "under -5 2;", "plus 1;");
        int[][] ends = {{-9, 4}, {NOWHERE, 5}, {-5, NOWHERE}, {NOWHERE, NOWHERE}};
        for (int cost = 0; cost < 4; cost++) {
            is(ends[cost][0], k.flat(cost, 0));
            is(ends[cost][1], k.flat(cost, 1));
        }
        is(5000, farAsCanBe().flat(0, 0));
        is(5000, farAsCanBe().flat(0, 1));
    }

    private void flatBestEnd() {
        SlopeKeeper k = with("kink -9 1;kink -4 1;", "over -5 2;", "under 5 2;", "plus 1;");
        int[] ends = {-4, -5, 5, 0};
        for (int cost = 0; cost < 4; cost++) {
            is(ends[cost], k.flat(cost, 2));
        }
    }

    private void flatCounts() {
        SlopeKeeper k = with("kink -9 1;kink 4 3;over 4 2;", "over 5 0;", "under -5 2;");
        int[][] counts = {{2, 10}, {0, 0}, {1, 2}, {0, 0}};
        for (int cost = 0; cost < 4; cost++) {
            is(counts[cost][0], k.flat(cost, 3));
            is(counts[cost][1], k.flat(cost, 4));
        }
        is(5000, heavyAsCanBe().flat(0, 4));
        is(1, heavyAsCanBe().flat(0, 3));
    }

    private void noSuchFlat() {
        SlopeKeeper k = with("kink 3 2;");
        for (int what = 0; what <= 4; what++) {
            int one = what;
            noSuchCosts(cost -> k.flat(cost, one));
        }
        for (int what : new int[] {-1, 5, MIN, MAX}) {
            noSuch(() -> k.flat(0, what));
            changesNothing(mixed -> mixed.flat(0, what));
        }
    }

    private void kink() {
        SlopeKeeper k = with("kink 4 2;", "over 500 99;under -500 98;");
        is(4, k.kink(0, 0, 0));
        is(4, k.kink(0, 0, 1));
        is(-500, k.kink(1, 0, 0));
        is(98, k.kink(1, 0, 1));
        is(500, k.kink(1, 1, 0));
        is(99, k.kink(1, 1, 1));
        is(5000, farAsCanBe().kink(0, 0, 0));
    }

    private void noSuchKink() {
        SlopeKeeper k = with("kink 4 2;kink 5 2;", "kink 4 2;", "kink 4 2;", "kink 4 2;");
        noSuchCosts(cost -> k.kink(cost, 0, 0));
        for (int i : new int[] {-1, 2, MIN, MAX}) {
            noSuch(() -> k.kink(0, i, 0));
            noSuch(() -> k.kink(0, i, 1));
            changesNothing(mixed -> mixed.kink(3, i, 0));
        }
        for (int what : new int[] {-1, 2, MIN, MAX}) {
            noSuch(() -> k.kink(0, 0, what));
            changesNothing(mixed -> mixed.kink(0, 0, what));
        }
        noSuch(() -> new SlopeKeeper().kink(0, 0, 0));
        k.does(0, RISE, 0, 0);
        k.does(0, FALL, 0, 0);
        noSuch(() -> k.kink(0, 0, 0));
    }

    private void slope() {
        SlopeKeeper k = with("over 5 99;", "under 5 99;", "kink -5 1;");
        int[][] slopes = {{0, 5, 0, 99}, {0, 6, 99, 99}, {0, 4, 0, 0}, {1, 5, -99, 0}, {1, 6, 0, 0}, {1, 4, -99, -99}, {2, -5, -1, 1}};
        for (int[] at : slopes) {
            is(at[2], k.slope(at[0], at[1], 0));
            is(at[3], k.slope(at[0], at[1], 1));
        }
        is(-1, farAsCanBe().slope(0, 5000, 0));
        is(1, farAsCanBe().slope(0, 5000, 1));
    }

    private void noSuchSlope() {
        SlopeKeeper k = with("over 5 99;");
        noSuchCosts(cost -> k.slope(cost, 0, 0));
        for (int what : new int[] {-1, 2, MIN, MAX}) {
            noSuch(() -> k.slope(0, 0, what));
            noSuch(() -> k.slope(0, 100001, what));
            changesNothing(mixed -> mixed.slope(0, 0, what));
        }
    }

    private void slopeIllegal() {
        SlopeKeeper k = with("over 5 99;");
        illegalXs(x -> k.slope(0, x, 0));
        illegalXs(x -> k.slope(0, x, 1));
        for (int x : NO_XS) {
            noSuch(() -> k.slope(-1, x, 0));
            changesNothing(mixed -> mixed.slope(0, x, 0));
        }
    }

    private void off() {
        SlopeKeeper k = with("kink 7 1;", "over 7 1;", "under 7 1;");
        int[][] ends = {{4, 10}, {NOWHERE, 10}, {4, NOWHERE}, {NOWHERE, NOWHERE}};
        for (int cost = 0; cost < 4; cost++) {
            is(ends[cost][0], k.off(cost, 3, 0));
            is(ends[cost][1], k.off(cost, 3, 1));
        }
    }

    private void noSuchOff() {
        SlopeKeeper k = with("kink 7 1;");
        noSuchCosts(cost -> k.off(cost, 0, 0));
        for (int what : new int[] {-1, 2, MIN, MAX}) {
            noSuch(() -> k.off(0, 0, what));
            noSuch(() -> k.off(0, -1, what));
            changesNothing(mixed -> mixed.off(0, 0, what));
        }
    }

    private void offIllegal() {
        SlopeKeeper k = with("kink 7 1;");
        for (int much : new int[] {-1, 1000001, MIN, MAX}) {
            illegal(() -> k.off(0, much, 0));
            illegal(() -> k.off(0, much, 1));
            noSuch(() -> k.off(4, much, 0));
            changesNothing(mixed -> mixed.off(0, much, 0));
        }
        is(7, k.off(0, 0, 0));
        is(1000007, k.off(0, 1000000, 1));
    }
}
