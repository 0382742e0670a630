/** Terms 1: costs, their steps, kinks and flats, and what is too much. */
final class StepEdges extends Edges {
    StepEdges(Book book, Due due) {
        super(book, due);
    }

    @Override
    void all() {
        part("Terms 1");
        tells("COSTS 0 to 3", this::fourCosts);
        tells("each a row of STEPS (at most 40;", this::atMostForty);
        tells("none at first).", this::noneAtFirst);
        tells("x is a whole number.", this::wholeNumbers);
        tells("f(x) is 0 without STEPS;", this::nothingWithoutSteps);
        tells("by each STEP it becomes f'(x):", this::stepByStep);
        tells("0 'kink' A W: f(x) and W times what x is off A.", this::kink);
        tells("1 'over' A W: f(x) and W times what x is above A (0 if it isn't).", this::over);
        tells("2 'under' A W: likewise below.", this::under);
        tells("3 'drift' D: f(x less D).", this::drift);
        tells("4 'move' L U: the least of f(y) for y from x less U to x and L.", this::move);
        tells("5 'rise': the least of f(y) for y up to x.", this::rise);
        tells("6 'fall': the least of f(y) for y from x on.", this::fall);
        tells("7 'plus' C: f(x) and C.", this::plus);
        tells("8 'and' K: f(x) and g(x),", this::and);
        tells("g being COST K as it is when the STEP is told", this::asItIsWhenTold);
        tells("(another one).", this::anotherOne);
        tells("(A, D: -500 to 500;", this::placesAndDrifts);
        tells("W, L, U: 0 to 99;", this::weightsAndMoves);
        tells("C: 0 to 999;", this::plusNumbers);
        tells("K: 0 to 3.)", this::andNumbers);
        tells("f is CONVEX always:", this::convex);
        tells("its KINKS are where its slope changes (by how much: its WEIGHT), rising.", this::kinks);
        tells("LEAST: the least of f;", this::least);
        tells("FLAT: from the least x to the greatest one where f is LEAST", this::flat);
        tells("(none, if there is no least, no greatest one).", this::flatWithoutEnds);
        tells("It is TOO MUCH, if a KINK were not from -5000 to 5000,", this::tooFar);
        tells("all WEIGHTS together above 5000,", this::tooHeavy);
        tells("or LEAST above 100000000.", this::tooDear);
    }

    private void fourCosts() {
        SlopeKeeper k = new SlopeKeeper();
        for (int cost = 0; cost < 4; cost++) {
            is(1, k.does(cost, PLUS, 10 + cost, 0));
        }
        for (int cost = 0; cost < 4; cost++) {
            is(10 + cost, k.least(cost));
        }
        for (int cost : NO_COSTS) {
            is(NONE, k.does(cost, PLUS, 1, 0));
            noSuch(() -> k.least(cost));
        }
    }

    private void atMostForty() {
        SlopeKeeper k = new SlopeKeeper();
        for (int i = 1; i <= 40; i++) {
            for (int cost = 0; cost < 4; cost++) {
                is(i, k.does(cost, PLUS, 1, 0));
            }
        }
        for (int cost = 0; cost < 4; cost++) {
            is(NONE, k.does(cost, PLUS, 1, 0));
            is(40, k.count(cost));
            is(40, k.least(cost));
        }
    }

    private void noneAtFirst() {
        SlopeKeeper k = new SlopeKeeper();
        for (int cost = 0; cost < 4; cost++) {
            int one = cost;
            is(0, k.count(cost));
            is(0, k.told(cost, NONE));
            noSuch(() -> k.step(one, 0, 0));
        }
    }

    private void wholeNumbers() {
        SlopeKeeper k = with("kink 0 1;kink 1 1;");
        is(3, k.at(0, -1));
        is(1, k.at(0, 0));
        is(1, k.at(0, 1));
        is(3, k.at(0, 2));
    }

    private void nothingWithoutSteps() {
        SlopeKeeper k = new SlopeKeeper();
        for (int cost = 0; cost < 4; cost++) {
            for (int x : new int[] {-100000, -1, 0, 1, 100000}) {
                is(0, k.at(cost, x));
            }
        }
        k.does(2, KINK, 4, 5);
        k.takes(2, 0);
        is(0, k.at(2, 100000));
        is(0, k.flat(2, 3));
    }

    private void stepByStep() {
        SlopeKeeper k = with("over 0 1;rise;", "rise;over 0 1;");
        is(0, k.at(0, 5));
        is(5, k.at(1, 5));
    }

    private void around(String steps, int place, long below, long there, long above) {
        SlopeKeeper k = with(steps);
        is(below, k.at(0, place - 1));
        is(there, k.at(0, place));
        is(above, k.at(0, place + 1));
    }

    private void kink() {
        around("kink 5 3;", 5, 3, 0, 3);
        around("plus 7;kink 5 3;", 5, 10, 7, 10);
        around("kink -500 99;", -500, 99, 0, 99);
        around("kink 500 99;", 500, 99, 0, 99);
        around("kink 5 0;", 5, 0, 0, 0);
        is(99 * 100500, with("kink -500 99;").at(0, 100000));
        is(99 * 100500, with("kink 500 99;").at(0, -100000));
    }

    private void over() {
        around("over 5 3;", 5, 0, 0, 3);
        around("plus 7;over 5 3;", 5, 7, 7, 10);
        around("over -500 99;", -500, 0, 0, 99);
        around("over 500 99;", 500, 0, 0, 99);
        around("over 5 0;", 5, 0, 0, 0);
        is(0, with("over -500 99;").at(0, -100000));
        is(99 * 100500, with("over -500 99;").at(0, 100000));
    }

    private void under() {
        around("under 5 3;", 5, 3, 0, 0);
        around("plus 7;under 5 3;", 5, 10, 7, 7);
        around("under -500 99;", -500, 99, 0, 0);
        around("under 500 99;", 500, 99, 0, 0);
        around("under 5 0;", 5, 0, 0, 0);
        is(0, with("under 500 99;").at(0, 100000));
        is(99 * 100500, with("under 500 99;").at(0, -100000));
    }

    private void drift() {
        around("kink 5 3;drift 4;", 9, 3, 0, 3);
        around("kink 5 3;drift 500;", 505, 3, 0, 3);
        around("kink 5 3;drift -500;", -495, 3, 0, 3);
        around("kink 5 3;drift 0;", 5, 3, 0, 3);
        around("plus 7;under 2 1;drift -4;", -2, 8, 7, 7);
    }

    private void move() {
        around("kink 0 10;move 2 3;", 3, 0, 0, 10);
        around("kink 0 10;move 2 3;", -2, 10, 0, 0);
        around("kink 0 10;move 0 0;", 0, 10, 0, 10);
        around("kink 0 10;move 99 99;", 99, 0, 0, 10);
        around("kink 0 10;move 99 99;", -99, 10, 0, 0);
        around("kink 0 10;move 99 0;", 0, 0, 0, 10);
        around("kink 0 10;move 99 0;", -99, 10, 0, 0);
        around("kink 0 10;move 0 99;", 0, 10, 0, 0);
        around("kink 0 10;move 0 99;", 99, 0, 0, 10);
        around("plus 7;over 4 1;move 1 2;", 6, 7, 7, 8);
        around("kink 0 1;kink 4 1;move 1 1;", -1, 6, 4, 4);
    }

    private void rise() {
        around("kink 4 10;rise;", 4, 10, 0, 0);
        around("plus 7;kink 0 2;kink 9 1;rise;", 0, 19, 16, 16);
        around("over 4 10;rise;", 4, 0, 0, 0);
        around("under 4 10;rise;", 4, 10, 0, 0);
        is(0, with("kink 4 10;rise;").at(0, 100000));
        is(0, with("over -500 99;rise;").at(0, 100000));
        is(10 * 100004, with("kink 4 10;rise;").at(0, -100000));
    }

    private void fall() {
        around("kink 4 10;fall;", 4, 0, 0, 10);
        around("plus 7;kink 0 2;kink 9 1;fall;", 0, 16, 16, 17);
        around("under 4 10;fall;", 4, 0, 0, 0);
        around("over 4 10;fall;", 4, 0, 0, 10);
        is(0, with("kink 4 10;fall;").at(0, -100000));
        is(0, with("under 500 99;fall;").at(0, -100000));
        is(10 * 99996, with("kink 4 10;fall;").at(0, 100000));
    }

    private void plus() {
        around("kink 2 3;plus 0;", 2, 3, 0, 3);
        around("kink 2 3;plus 999;", 2, 1002, 999, 1002);
        around("plus 999;plus 999;", 100, 1998, 1998, 1998);
    }

    private void and() {
        SlopeKeeper k = with("kink 3 2;plus 4;", "under 5 7;and 0;", "and 3;", "and 1;and 1;");
        is(4 + 2 * 10 + 12 * 7, k.at(1, -7));
        is(4, k.at(1, 3) - 14);
        is(4 + 4, k.at(1, 5));
        is(0, k.at(2, -100000));
        is(1, k.count(2));
        is(2 * (4 + 4), k.at(3, 5));
        manyShapesOnTop();
    }

    /** One after the other, so that nothing of a former one may be left in the next. */
    private void manyShapesOnTop() {
        String[] shapes = {
            "over 0 99;over 0 99;", "over 0 1;over 5 1;", "under 0 1;under 5 1;", "over 0 63;", "over 0 64;", "over 0 65;", "under 0 65;",
            "over 1 65;", "over 1 65;plus 7;", "under 0 99;over 0 29;", "kink -500 1;kink 500 1;", "over -500 1;over -437 1;over -436 1;",
            "under -63 1;over 0 1;over 1 1;over 65 1;over 500 99;", "plus 3;", "", "kink 3 2;move 70 70;kink 9 1;",
        };
        SlopeKeeper k = new SlopeKeeper();
        for (String shape : shapes) {
            reads(k, 1, shape);
            reads(k, 0, "and 1;");
            is(1, k.alike(0, 1));
            SlopeKeeper other = with(shape);
            for (int x : new int[] {-100000, -500, -1, 0, 1, 2, 64, 500, 100000}) {
                is(other.at(0, x), k.paid(0, x, 0));
            }
        }
        SlopeKeeper wide = with("", "under 0 99;".repeat(25) + "under 0 25;" + "drift 500;".repeat(10));
        reads(wide, 2, "over 0 99;".repeat(25) + "over 0 25;" + "drift -500;".repeat(10) + "and 1;");
        reads(wide, 3, "and 2;");
        is(1, wide.alike(3, 2));
        is(2500L * 5000 * 2, wide.at(3, 0));
        is(2500L * 105000, wide.paid(3, -100000, 0));
    }

    private void asItIsWhenTold() {
        SlopeKeeper k = with("kink 3 2;", "and 0;");
        k.does(0, PLUS, 50, 0);
        is(2, k.at(1, 4));
        is(2, k.does(1, AND, 0, 0));
        is(2 + 52, k.at(1, 4));
        is(3, k.puts(1, 0, AND, 0, 0));
        is(2 + 52 + 52, k.at(1, 4));
        reads(k, 0, "");
        is(2 + 52 + 52, k.at(1, 4));
        is(2, k.takes(1, 2));
        is(2 + 52, k.at(1, 4));
        reads(k, 0, "plus 9;");
        reads(k, 1, "and 0;");
        is(9, k.at(1, 4));
        k.undo();
        is(2 + 52, k.at(1, 4));
        eachAsItWas();
    }

    /** Cost 1 is told anew each time; of those on top of cost 0 each stays as it was. */
    private void eachAsItWas() {
        String[] texts = {"over 5 3;", "under 5 3;", "kink 5 1;over 5 1;", "over 6 3;", "over 5 3;plus 1;", "rise;", "plus 1;", "over 5 1;over 6 2;"};
        long[] atFour = {0, 3, 1, 0, 1, 0, 1, 0};
        long[] atSeven = {6, 0, 4, 3, 7, 0, 1, 4};
        SlopeKeeper k = new SlopeKeeper();
        for (int i = 0; i < 2 * texts.length; i++) {
            reads(k, 1, texts[i % texts.length]);
            is(i + 1, k.does(0, AND, 1, 0));
        }
        for (int i = 0; i < 2 * texts.length; i++) {
            is(atFour[i % texts.length], k.paid(0, 4, i));
            is(atSeven[i % texts.length], k.paid(0, 7, i));
        }
    }

    private void anotherOne() {
        for (int cost = 0; cost < 4; cost++) {
            SlopeKeeper k = new SlopeKeeper();
            is(NONE, k.does(cost, AND, cost, 0));
            is(NONE, k.puts(cost, 0, AND, cost, 0));
            is(3, Due.text(k, cost, "and " + cost + ";"));
            is(0, k.count(cost));
            is(1, k.does(cost, AND, (cost + 1) % 4, 0));
            is(2, k.puts(cost, 0, AND, (cost + 2) % 4, 0));
            reads(k, cost, "and " + (cost + 3) % 4 + ";");
        }
    }

    /** The step can be told by each of the three calls. */
    private void canBeTold(int cost, int kind, int a, int b, String text) {
        SlopeKeeper k = new SlopeKeeper();
        is(1, k.does(cost, kind, a, b));
        is(2, k.puts(cost, 0, kind, a, b));
        for (int i = 0; i < 2; i++) {
            is(kind, k.step(cost, i, 0));
            is(a, k.step(cost, i, 1));
            is(b, k.step(cost, i, 2));
        }
        is(0, Due.text(k, cost, text));
        is(1, k.count(cost));
        is(a, k.step(cost, 0, 1));
        is(b, k.step(cost, 0, 2));
    }

    /** Text that could tell it has this fault. */
    private void cannotBeTold(int cost, int kind, int a, int b, String text, int fault) {
        SlopeKeeper k = new SlopeKeeper();
        is(NONE, k.does(cost, kind, a, b));
        is(NONE, k.puts(cost, 0, kind, a, b));
        is(fault, Due.text(k, cost, text));
        is(0, k.count(cost));
        is(0, k.count(4));
        is(NONE, k.does(cost, kind, a < 0 ? MIN : a, b < 0 ? MIN : b));
        is(NONE, k.does(cost, kind, a > 99 ? MAX : a, b > 99 ? MAX : b));
    }

    private void placesAndDrifts() {
        String[] words = {"kink", "over", "under"};
        for (int kind = KINK; kind <= UNDER; kind++) {
            canBeTold(0, kind, -500, 1, words[kind] + " -500 1;");
            canBeTold(0, kind, 500, 1, words[kind] + " 500 1;");
            cannotBeTold(0, kind, -501, 1, words[kind] + " -501 1;", 2);
            cannotBeTold(0, kind, 501, 1, words[kind] + " 501 1;", 2);
        }
        canBeTold(0, DRIFT, -500, 0, "drift -500;");
        canBeTold(0, DRIFT, 500, 0, "drift 500;");
        cannotBeTold(0, DRIFT, -501, 0, "drift -501;", 2);
        cannotBeTold(0, DRIFT, 501, 0, "drift 501;", 2);
    }

    private void weightsAndMoves() {
        String[] words = {"kink", "over", "under"};
        for (int kind = KINK; kind <= UNDER; kind++) {
            canBeTold(0, kind, 1, 0, words[kind] + " 1 0;");
            canBeTold(0, kind, 1, 99, words[kind] + " 1 99;");
            cannotBeTold(0, kind, 1, -1, words[kind] + " 1 -1;", 1);
            cannotBeTold(0, kind, 1, 100, words[kind] + " 1 100;", 2);
        }
        canBeTold(0, MOVE, 0, 0, "move 0 0;");
        canBeTold(0, MOVE, 99, 99, "move 99 99;");
        cannotBeTold(0, MOVE, -1, 0, "move -1 0;", 1);
        cannotBeTold(0, MOVE, 100, 0, "move 100 0;", 2);
        cannotBeTold(0, MOVE, 0, -1, "move 0 -1;", 1);
        cannotBeTold(0, MOVE, 0, 100, "move 0 100;", 2);
    }

    private void plusNumbers() {
        canBeTold(0, PLUS, 0, 0, "plus 0;");
        canBeTold(0, PLUS, 999, 0, "plus 999;");
        cannotBeTold(0, PLUS, -1, 0, "plus -1;", 1);
        cannotBeTold(0, PLUS, 1000, 0, "plus 1000;", 2);
    }

    private void andNumbers() {
        canBeTold(3, AND, 0, 0, "and 0;");
        canBeTold(0, AND, 3, 0, "and 3;");
        cannotBeTold(0, AND, -1, 0, "and -1;", 1);
        cannotBeTold(0, AND, 4, 0, "and 4;", 2);
    }

    private void convex() {
        SlopeKeeper k = with("", "kink -3 4;", "kink 5 3;move 2 3;drift -4;over 9 7;under -9 2;rise;kink 1 1;fall;and 1;plus 3;");
        long former = MIN;
        for (int x = -40; x <= 40; x++) {
            int slope = k.slope(2, x, 0);
            is(1, slope >= former ? 1 : 0);
            is(slope, k.at(2, x) - k.at(2, x - 1));
            former = slope;
        }
    }

    private void kinks() {
        SlopeKeeper k = with("kink 4 2;under -3 1;kink 4 1;over 9 0;kink -7 1;");
        int[][] kinks = {{-7, 2}, {-3, 1}, {4, 6}};
        is(kinks.length, k.flat(0, 3));
        for (int i = 0; i < kinks.length; i++) {
            is(kinks[i][0], k.kink(0, i, 0));
            is(kinks[i][1], k.kink(0, i, 1));
            is(kinks[i][1], k.slope(0, kinks[i][0], 1) - k.slope(0, kinks[i][0], 0));
        }
        k.does(0, RISE, 0, 0);
        is(3, k.flat(0, 3));
        is(2, k.kink(0, 2, 1));
        k.does(0, FALL, 0, 0);
        is(0, k.flat(0, 3));
        fortyEightKinks();
    }

    /** As many as the class makes room for at first: on top, and with the one at the flat parted. */
    private void fortyEightKinks() {
        StringBuilder forty = new StringBuilder("kink 0 1;");
        for (int place = 1; place < 40; place++) {
            forty.append("over ").append(place).append(" 2;");
        }
        StringBuilder more = new StringBuilder("and 0;");
        for (int place = 40; place < 48; place++) {
            more.append("over ").append(place).append(" 2;");
        }
        SlopeKeeper k = with(forty.toString(), more.toString(), "and 1;");
        is(48, k.flat(1, 3));
        is(96, k.flat(1, 4));
        is(1, k.alike(1, 2));
        is(10, k.does(1, MOVE, 1, 0));
        is(49, k.flat(1, 3));
        is(96, k.flat(1, 4));
        is(47, k.kink(1, 48, 0));
        is(-1, k.kink(1, 0, 0));
    }

    private void least() {
        is(20, with("kink 0 3;kink 10 2;").least(0));
        is(20, with("kink 0 2;kink 10 3;").least(0));
        is(0, with("over 500 9;under -500 9;").least(0));
        is(7, with("over 5 1;plus 7;").least(0));
        is(1000, with("under 500 1;over -500 3;").least(0));
        is(0, new SlopeKeeper().least(3));
    }

    private void flatIs(String steps, int from, int to) {
        SlopeKeeper k = with(steps);
        is(from, k.flat(0, 0));
        is(to, k.flat(0, 1));
    }

    private void flat() {
        flatIs("kink 3 2;", 3, 3);
        flatIs("kink -9 1;kink 4 1;", -9, 4);
        flatIs("kink -9 2;kink 4 1;", -9, -9);
        flatIs("kink -9 1;kink 4 2;", 4, 4);
        flatIs("over 5 1;over 7 1;under 2 1;under 1 1;", 2, 5);
        flatIs("under 500 1;over -500 1;", -500, 500);
    }

    private void flatWithoutEnds() {
        flatIs("over 5 2;", NOWHERE, 5);
        flatIs("under 5 2;", 5, NOWHERE);
        flatIs("plus 3;", NOWHERE, NOWHERE);
        flatIs("kink 3 2;rise;", 3, NOWHERE);
        flatIs("kink 3 2;fall;", NOWHERE, 3);
        flatIs("kink 3 0;", NOWHERE, NOWHERE);
    }

    private void tooFar() {
        SlopeKeeper above = farAsCanBe();
        is(5000, above.kink(0, 0, 0));
        is(NONE, above.does(0, DRIFT, 1, 0));
        is(NONE, above.does(0, MOVE, 0, 1));
        is(11, above.does(0, MOVE, 1, 0));
        is(4999, above.kink(0, 0, 0));
        is(5000, above.kink(0, 1, 0));
        is(NONE, above.does(0, DRIFT, 1, 0));
        is(12, above.does(0, KINK, 500, 99));
        SlopeKeeper below = with("kink -500 1;" + "drift -500;".repeat(9));
        is(-5000, below.kink(0, 0, 0));
        is(NONE, below.does(0, DRIFT, -1, 0));
        is(NONE, below.does(0, MOVE, 1, 0));
        is(11, below.does(0, MOVE, 0, 1));
        is(-5000, below.kink(0, 0, 0));
        is(-4999, below.kink(0, 1, 0));
        SlopeKeeper rising = farAsCanBe();
        is(11, rising.does(0, RISE, 0, 0));
        is(12, rising.does(0, MOVE, 0, 99));
        is(5000, rising.flat(0, 0));
        SlopeKeeper none = with("kink 500 0;" + "drift 500;".repeat(30));
        is(0, none.flat(0, 3));
    }

    private void tooHeavy() {
        SlopeKeeper k = heavyAsCanBe();
        is(5000, k.flat(0, 4));
        for (int kind = KINK; kind <= UNDER; kind++) {
            is(NONE, k.does(0, kind, 0, 1));
            is(NONE, k.does(0, kind, 7, 1));
        }
        is(27, k.does(0, KINK, 7, 0));
        is(1, k.does(1, AND, 0, 0));
        is(5000, k.flat(1, 4));
        is(NONE, k.does(1, AND, 0, 0));
        is(28, k.does(0, RISE, 0, 0));
        is(2500, k.flat(0, 4));
        is(29, k.does(0, OVER, 0, 99));
        SlopeKeeper one = with("kink 0 99;".repeat(25) + "kink 0 24;over 0 1;");
        is(4999, one.flat(0, 4));
        is(NONE, one.does(0, KINK, 0, 1));
        is(28, one.does(0, UNDER, 0, 1));
        asManyKinksAsWeights();
    }

    /** 5000 kinks of weight 1, one at each place from -2500 to 2499. */
    private void asManyKinksAsWeights() {
        StringBuilder forty = new StringBuilder();
        for (int place = 0; place < 40; place++) {
            forty.append("over ").append(place).append(" 1;");
        }
        SlopeKeeper k = with(forty.toString(), "and 0;drift -40;".repeat(19) + "and 0;");
        is(800, k.flat(1, 3));
        reads(k, 2, "and 1;drift -500;drift -300;".repeat(5) + "and 1;" + "drift -40;and 0;".repeat(5));
        reads(k, 3, "and 2;" + "drift 500;".repeat(4) + "drift 460;");
        is(5000, k.flat(3, 3));
        is(5000, k.flat(3, 4));
        for (int i : new int[] {0, 1, 2500, 4998, 4999}) {
            is(i - 2500, k.kink(3, i, 0));
            is(1, k.kink(3, i, 1));
        }
        noSuch(() -> k.kink(3, 5000, 0));
        is(5000, k.slope(3, 100000, 0));
        is(NONE, k.does(3, OVER, 0, 1));
        is(NONE, k.does(3, UNDER, 500, 1));
        is(7, k.does(3, FALL, 0, 0));
        is(8, k.does(3, MOVE, 0, 99));
        is(5000, k.flat(3, 3));
        is(2598, k.kink(3, 4999, 0));
        is(9, k.does(3, RISE, 0, 0));
        is(0, k.flat(3, 3));
    }

    private void tooDear() {
        SlopeKeeper k = dearAsCanBe();
        is(100000000, k.least(3));
        is(NONE, k.does(3, PLUS, 1, 0));
        is(6, k.does(3, PLUS, 0, 0));
        is(7, k.does(3, KINK, 0, 1));
        is(100100000, k.at(3, 100000));
        is(NONE, k.does(3, KINK, 5, 1));
        is(NONE, k.does(3, UNDER, 1, 1));
        is(8, k.does(3, UNDER, 0, 1));
        is(NONE, k.does(3, AND, 0, 0));
    }
}
