/** Terms 3: spared, dearest, heaviest, told, noted, fits, look next, years; promises 22 to 24, 27, 33 to 37. */
final class WeightEdges extends Edges {
    /** Weights of 4950, by 25 steps. */
    private static final String HEAVY = "kink 0 99;".repeat(25);

    WeightEdges(Book book, Due due) {
        super(book, due);
    }

    @Override
    void all() {
        part("Terms 3");
        tells("SPARED by a STEP: LEAST less what it would be without that STEP", this::spared);
        tells("(all others as they are;", this::allOthers);
        tells("-1000000000, if it were TOO MUCH then).", this::sparedTooMuch);
        tells("DEAREST: the STEP by which most is SPARED", this::dearest);
        tells("(of like ones the first).", this::dearestFirst);
        tells("HEAVIEST of a STEP of kind 0 to 2", this::heaviestKinds);
        tells("for so much (0 to 100000000):", this::heaviestMuch);
        tells("the greatest W (0 to 40) with which,", this::heaviestWeights);
        tells("all else as it is, LEAST is no more,", this::heaviest);
        tells("and nothing TOO MUCH;", this::heaviestTooMuch);
        tells("none.", this::heaviestNone);
        tells("TOLD is a TEXT: of each STEP its word, a blank ahead of each NUMBER", this::told);
        tells("(- right ahead of one below 0; no needless 0s), \";\".", this::toldNumbers);
        tells("NOTED (at most 8):", this::eightNotes);
        tells("that f of COST 0 is v at an x.", this::noteOfCost0);
        tells("FITS of one of its STEPS of kind 0 to 2:", this::fitsKinds);
        tells("WEIGHTS (W, 0 to 40) with which,", this::fitsWeights);
        tells("all else as it is, all NOTED would be so", this::fitsAll);
        tells("(none that is TOO MUCH):", this::fitsTooMuch);
        tells("how many; the least.", this::fitsAnswers);
        tells("LOOK NEXT: the x from -20 to 20", this::lookFromTo);
        tells("at which f is by these most unlike", this::lookMost);
        tells("(of like ones the least):", this::lookLeast);
        tells("how many unlike;", this::lookMany);
        tells("none without any.", this::lookNone);
        part("Promise 22");
        tells("HEAVIEST; NONE: none.", this::heaviestAnswers);
        tells("NoSuchElementException: also no such STEP, of another kind.", this::noSuchHeaviest);
        tells("IllegalArgumentException (behind that): so much.", this::heaviestIllegal);
        part("Promise 23");
        tells("SPARED.", this::sparedOfEach);
        tells("NoSuchElementException: also no such STEP.", this::noSuchSpared);
        part("Promise 24");
        tells("DEAREST; NONE without STEPS.", this::dearestAnswers);
        tells("NoSuchElementException.", () -> noSuchCosts(cost -> new SlopeKeeper().dearest(cost)));
        part("Promise 27");
        tells("TOLD: how many bytes (i NONE), the i-th (0 on).", this::toldBytes);
        tells("NoSuchElementException: also there is none.", this::noSuchTold);
        part("Promise 33");
        tells("NOTED: how much is.", this::noteAnswers);
        tells("NONE (STATUS 2): there are 8, x not -100000 to 100000.", this::noteRefused);
        part("Promise 34");
        tells("FITS of a STEP: how many (what 0), the least (1; NONE).", this::fitsAnswers);
        tells("NoSuchElementException: no such STEP of COST 0 whose kind is 0 to 2, another what.", this::noSuchFits);
        part("Promise 35");
        tells("LOOK NEXT for a STEP: which (what 0; NOWHERE), how many unlike (1; 0: none).", this::lookAnswers);
        tells("NoSuchElementException likewise.", this::noSuchLook);
        part("Promise 36");
        tells("All that is NOTED is forgotten.", this::forget);
    }

    private void spared() {
        SlopeKeeper k = with("kink 0 5;move 1 1;kink 10 3;plus 27;");
        is(54, k.least(0));
        is(27, k.spared(0, 0));
        is(-3, k.spared(0, 1));
        is(27, k.spared(0, 2));
        is(27, k.spared(0, 3));
        is(0, with("kink 5 9;").spared(0, 0));
        is(999, with("plus 999;").spared(0, 0));
        is(0, with("rise;").spared(0, 0));
        is(-198000, with("under 500 99;under 500 99;fall;over -500 99;over -500 99;").spared(0, 2));
    }

    private void allOthers() {
        SlopeKeeper k = with("plus 5;kink 0 1;", "and 0;under 7 2;");
        k.does(0, PLUS, 50, 0);
        is(12, k.least(1));
        is(12, k.spared(1, 0));
        is(7, k.spared(1, 1));
        is(2, k.count(1));
        is(12, k.least(1));
        is(3, k.count(4));
    }

    private void sparedTooMuch() {
        SlopeKeeper far = with("kink 500 1;" + "drift 500;".repeat(5) + "drift -1;" + "drift 500;".repeat(4) + "drift 1;");
        is(-1000000000, far.spared(0, 6));
        is(0, far.spared(0, 11));
        is(0, far.spared(0, 0));
        SlopeKeeper back = with("kink 500 1;drift -500;" + "drift 500;".repeat(10) + "drift -500;");
        is(-1000000000, back.spared(0, 1));
        is(0, back.spared(0, 12));
        SlopeKeeper heavy = with("kink 0 99;".repeat(12) + "rise;" + "kink 0 99;".repeat(19) + "over 0 50;");
        is(-1000000000, heavy.spared(0, 12));
        SlopeKeeper dear = dearAsCanBe();
        reads(dear, 3, "and 2;and 2;and 2;and 2;under 500 99;fall;over -500 99;and 2;");
        is(-1000000000, dear.spared(3, 5));
        is(20000000, dear.spared(3, 7));
        SlopeKeeper just = with("kink 500 1;drift -1;" + "drift 500;".repeat(9) + "drift 1;");
        is(-1000000000, just.spared(0, 1));
        just.takes(0, 11);
        is(0, just.spared(0, 1));
    }

    private void dearest() {
        is(1, with("plus 5;plus 7;plus 6;").dearest(0));
        is(0, with("plus 5;move 1 1;").dearest(0));
        is(1, with("move 1 1;plus 5;").dearest(0));
        is(1, with("over -500 1;under 500 1;rise;" + "drift 500;".repeat(10)).dearest(0));
        is(-1000000000, with("over -500 1;under 500 1;rise;" + "drift 500;".repeat(10)).spared(0, 0));
        is(1, with("", "move 9 9;plus 9;").dearest(1));
    }

    private void dearestFirst() {
        is(0, with("plus 5;plus 5;").dearest(0));
        is(1, with("rise;plus 5;fall;plus 5;").dearest(0));
        is(0, with("rise;fall;").dearest(0));
        is(0, with("kink 0 1;move 3 3;kink 10 5;").dearest(0));
        is(0, with("drift -1;kink 500 1;drift -1;" + "drift 500;".repeat(9) + "drift 1;").dearest(0));
    }

    private void heaviestKinds() {
        SlopeKeeper k = with("kink 0 5;over -4 1;under 3 2;drift 1;move 1 1;rise;fall;plus 1;and 1;");
        for (int step = 0; step < 9; step++) {
            int one = step;
            if (step <= 2) {
                is(40, k.heaviest(0, step, 100000000));
            } else {
                noSuch(() -> k.heaviest(0, one, 100000000));
            }
        }
        SlopeKeeper kinds = with("kink 0 5;kink 10 3;", "kink 0 5;over -4 3;", "kink 0 5;under 4 3;");
        for (int cost = 0; cost < 3; cost++) {
            int each = cost == 0 ? 10 : 4;
            is(0, kinds.heaviest(cost, 1, each - 1));
            is(1, kinds.heaviest(cost, 1, each));
            is(2, kinds.heaviest(cost, 1, 2 * each + 1));
            is(40, kinds.heaviest(cost, 1, 5 * each));
        }
    }

    private void heaviestMuch() {
        SlopeKeeper k = with("kink 0 5;kink 10 3;");
        is(0, k.heaviest(0, 0, 0));
        is(40, k.heaviest(0, 0, 100000000));
        illegal(() -> k.heaviest(0, 0, -1));
        illegal(() -> k.heaviest(0, 0, 100000001));
        SlopeKeeper dear = dearAsCanBe();
        dear.does(3, KINK, 0, 5);
        is(40, dear.heaviest(3, 5, 100000000));
        is(NONE, dear.heaviest(3, 5, 99999999));
    }

    private void heaviestWeights() {
        SlopeKeeper k = with("kink 0 99;kink 1 99;");
        is(99, k.least(0));
        is(0, k.heaviest(0, 1, 0));
        is(1, k.heaviest(0, 1, 1));
        is(39, k.heaviest(0, 1, 39));
        is(40, k.heaviest(0, 1, 40));
        is(40, k.heaviest(0, 1, 41));
        is(40, k.heaviest(0, 1, 100000000));
        is(99, k.step(0, 1, 2));
    }

    private void heaviest() {
        SlopeKeeper k = with("kink 0 5;kink 10 3;rise;plus 2;kink 10 9;");
        is(32, k.least(0));
        is(3, k.heaviest(0, 1, 41));
        is(3, k.heaviest(0, 1, 32));
        is(2, k.heaviest(0, 1, 31));
        is(2, k.heaviest(0, 1, 22));
        is(1, k.heaviest(0, 1, 21));
        is(4, k.heaviest(0, 1, 42));
        is(40, k.heaviest(0, 1, 52));
        is(0, k.heaviest(0, 1, 2));
        is(32, k.least(0));
    }

    private void heaviestTooMuch() {
        SlopeKeeper k = with(HEAVY + "over 0 1;rise;under 0 30;over 0 1;");
        is(40, k.heaviest(0, 25, 0));
        SlopeKeeper full = with(HEAVY + "kink 0 3;");
        is(25, full.heaviest(0, 25, 0));
        SlopeKeeper later = with(HEAVY + "over 0 1;over 0 20;");
        is(30, later.heaviest(0, 25, 100000000));
        SlopeKeeper between = with(HEAVY + "over 0 1;over 0 20;rise;fall;");
        is(30, between.heaviest(0, 25, 100000000));
        SlopeKeeper far = with("over 500 0;drift 500;" + "drift 500;".repeat(8) + "drift 1;drift 500;drift -500;");
        is(0, far.heaviest(0, 0, 100000000));
    }

    private void heaviestNone() {
        SlopeKeeper k = with("kink 0 5;plus 7;");
        is(NONE, k.heaviest(0, 0, 6));
        is(NONE, k.heaviest(0, 0, 0));
        is(40, k.heaviest(0, 0, 7));
    }

    private void told() {
        String text = "kink 5 3;over 0 0;under 500 99;drift 9;move 0 2;rise;fall;plus 100;and 3;";
        is(text, Due.told(with(text), 0));
        is("kink 5 3;rise;", Due.told(with(" kink\n5   3 ; rise ;"), 0));
        is("", Due.told(new SlopeKeeper(), 0));
    }

    private void toldNumbers() {
        is("kink -5 3;over 0 7;under -500 0;drift -10;", Due.told(with("kink - 005 003;over -0 07;under -500 000;drift -010;"), 0));
        is("plus 0;plus 9;plus 10;plus 99;plus 100;plus 101;plus 110;plus 999;",
            Due.told(with("plus 000;plus 9;plus 10;plus 99;plus 100;plus 101;plus 110;plus 999;"), 0));
        is("drift -1;drift -99;drift -100;drift -105;", Due.told(with("drift -1;drift -99;drift -100;drift -105;"), 0));
        SlopeKeeper k = new SlopeKeeper();
        k.does(0, DRIFT, -7, 55);
        k.does(0, RISE, 5, 5);
        k.does(0, AND, 1, 5);
        is("drift -7;rise;and 1;", Due.told(k, 0));
    }

    private void eightNotes() {
        SlopeKeeper k = with("kink 0 5;");
        for (int i = 1; i <= 8; i++) {
            is(i, k.note(i, 5 * i));
        }
        is(NONE, k.note(9, 1));
        is(8, k.count(5));
        is(1, k.fits(0, 0));
        is(5, k.fits(0, 1));
    }

    private void noteOfCost0() {
        SlopeKeeper k = with("kink 0 5;", "kink 0 7;");
        k.note(3, 15);
        is(5, k.fits(0, 1));
        k.forget();
        k.note(3, 21);
        is(7, k.fits(0, 1));
        k.forget();
        for (int x : FARTHEST_XS) {
            k.note(x, 300000);
            is(3, k.fits(0, 1));
        }
        k.note(0, Long.MAX_VALUE);
        is(0, k.fits(0, 0));
        k.forget();
        k.note(0, Long.MIN_VALUE);
        is(0, k.fits(0, 0));
        k.forget();
        k.note(1, (1L << 32) + 5);
        is(0, k.fits(0, 0));
    }

    private void fitsKinds() {
        SlopeKeeper k = with("kink 0 5;over 0 1;under 0 2;drift 0;move 0 0;rise;fall;plus 0;and 1;");
        for (int step = 0; step < 9; step++) {
            int one = step;
            if (step <= 2) {
                is(41, k.fits(step, 0));
            } else {
                noSuch(() -> k.fits(one, 0));
            }
        }
        SlopeKeeper kinds = with("kink 0 5;over 0 1;under 0 2;");
        kinds.note(10, 60);
        kinds.note(-10, 70);
        for (int step = 0; step < 3; step++) {
            is(1, kinds.fits(step, 0));
            is(kinds.step(0, step, 2), kinds.fits(step, 1));
        }
        noSuch(() -> with("", "kink 0 5;").fits(0, 0));
    }

    private void fitsWeights() {
        SlopeKeeper k = with("kink 0 99;");
        is(41, k.fits(0, 0));
        is(0, k.fits(0, 1));
        int[][] noted = {{0, 1, 0}, {40, 1, 40}, {41, 0, NONE}, {99, 0, NONE}, {-1, 0, NONE}};
        for (int[] note : noted) {
            k.note(1, note[0]);
            is(note[1], k.fits(0, 0));
            is(note[2], k.fits(0, 1));
            k.forget();
        }
    }

    private void fitsAll() {
        SlopeKeeper k = with("kink 0 5;move 1 1;under 10 3;plus 4;");
        k.note(11, 54);
        is(1, k.fits(0, 0));
        is(5, k.fits(0, 1));
        is(41, k.fits(2, 0));
        k.note(9, 47);
        is(1, k.fits(2, 0));
        is(3, k.fits(2, 1));
        k.note(9, 47);
        is(1, k.fits(2, 0));
        k.note(9, 48);
        is(0, k.fits(2, 0));
        is(0, k.fits(0, 0));
        is(5, k.step(0, 0, 2));
        is(54, k.at(0, 11));
    }

    private void fitsTooMuch() {
        SlopeKeeper k = with(HEAVY + "kink 0 3;");
        is(26, k.fits(25, 0));
        reads(k, 0, HEAVY + "over 0 1;over 0 20;");
        is(31, k.fits(25, 0));
        is(41, k.fits(24, 0));
        reads(k, 0, HEAVY + "over 0 1;over 0 20;rise;fall;");
        is(31, k.fits(25, 0));
        reads(k, 0, "over 500 0;" + "drift 500;".repeat(9) + "drift 1;");
        is(1, k.fits(0, 0));
        is(0, k.fits(0, 1));
        reads(k, 0, "over 500 0;" + "drift 500;".repeat(9) + "drift 1;drift -1;");
        is(1, k.fits(0, 0));
        is(1, k.look(0, 1));
    }

    private void fitsAnswers() {
        SlopeKeeper k = with("over 10 5;under 20 3;fall;");
        k.note(15, 40);
        is(1, k.fits(0, 0));
        is(5, k.fits(0, 1));
        k.forget();
        k.note(15, 0);
        is(1, k.fits(0, 0));
        is(0, k.fits(0, 1));
        k.forget();
        k.note(10, 0);
        is(1, k.fits(0, 0));
        k.forget();
        k.note(-100, 30);
        is(38, k.fits(0, 0));
        is(3, k.fits(0, 1));
        k.note(-100, 31);
        is(0, k.fits(0, 0));
        is(NONE, k.fits(0, 1));
    }

    private void lookIs(String steps, int step, int x, int many) {
        SlopeKeeper k = with(steps);
        is(x, k.look(step, 0));
        is(many, k.look(step, 1));
    }

    private void lookFromTo() {
        lookIs("over 19 3;", 0, 20, 41);
        lookIs("over 20 3;", 0, -20, 1);
        lookIs("under -19 3;", 0, -20, 41);
        lookIs("under -20 3;", 0, -20, 1);
        lookIs("kink -20 3;", 0, -19, 41);
        lookIs("kink -21 3;", 0, -20, 41);
        lookIs("over -20 1;over -30 1;over 5 3;", 2, 6, 41);
        lookIs("over -20 1;under -30 5;over 5 3;rise;under 7 2;", 1, -20, 1);
    }

    private void lookMost() {
        lookIs("over 5 3;", 0, 6, 41);
        lookIs("over 5 3;over 0 9;", 1, 1, 41);
        lookIs("kink 0 9;over -2 3;rise;", 1, -1, 10);
        lookIs("under 10 3;under 7 2;kink 0 5;rise;", 2, -20, 41);
        SlopeKeeper k = with("kink 0 2;under 5 1;move 0 0;over 9 1;");
        is(-20, k.look(0, 0));
        is(41, k.look(0, 1));
        k.note(10, 21);
        is(1, k.look(0, 1));
        lookIs("kink 0 3;under 6 20;fall;", 1, -20, 4);
        lookIs("kink 0 5;kink 10 3;fall;", 0, 1, 41);
    }

    private void lookLeast() {
        lookIs("kink 0 3;", 0, -20, 41);
        lookIs("over -20 3;", 0, -19, 41);
        lookIs("plus 1;kink -20 1;fall;", 1, -19, 41);
        SlopeKeeper one = with("kink 0 3;");
        one.note(1, 3);
        is(-20, one.look(0, 0));
        is(1, one.look(0, 1));
    }

    private void lookMany() {
        SlopeKeeper k = with("kink 0 5;over 10 3;under 12 1;rise;");
        k.note(20, 12);
        is(41, k.fits(1, 0));
        is(1, k.look(1, 1));
        SlopeKeeper some = with("kink 0 3;under 6 20;fall;");
        some.note(9, 27);
        is(41, some.fits(1, 0));
        is(4, some.look(1, 1));
        some.note(0, 18);
        is(38, some.fits(1, 0));
        is(1, some.look(1, 1));
        SlopeKeeper flat = with("under 10 3;fall;");
        is(41, flat.fits(0, 0));
        is(1, flat.look(0, 1));
        is(-20, flat.look(0, 0));
    }

    private void lookNone() {
        SlopeKeeper k = with("kink 0 5;");
        k.note(1, 41);
        is(NOWHERE, k.look(0, 0));
        is(0, k.look(0, 1));
        k.forget();
        is(-20, k.look(0, 0));
        is(41, k.look(0, 1));
    }

    private void heaviestAnswers() {
        SlopeKeeper k = with("", "plus 3;kink 0 5;kink 7 2;");
        is(2, k.heaviest(1, 2, 17));
        is(NONE, k.heaviest(1, 2, 2));
        is(0, k.heaviest(1, 2, 3));
    }

    private void noSuchHeaviest() {
        SlopeKeeper k = with("kink 0 5;rise;", "kink 0 5;", "kink 0 5;", "kink 0 5;");
        noSuchCosts(cost -> k.heaviest(cost, 0, 0));
        for (int step : new int[] {-1, 1, 2, MIN, MAX}) {
            noSuch(() -> k.heaviest(0, step, 0));
            noSuch(() -> k.heaviest(0, step, -1));
        }
        for (int step : new int[] {-1, 2, 3, MIN, MAX}) {
            changesNothing(mixed -> mixed.heaviest(0, step, 0));
        }
        noSuch(() -> new SlopeKeeper().heaviest(0, 0, 0));
    }

    private void heaviestIllegal() {
        SlopeKeeper k = with("kink 0 5;rise;");
        for (int much : new int[] {-1, 100000001, MIN, MAX}) {
            illegal(() -> k.heaviest(0, 0, much));
            noSuch(() -> k.heaviest(4, 0, much));
            noSuch(() -> k.heaviest(0, 1, much));
            noSuch(() -> k.heaviest(0, 2, much));
            changesNothing(mixed -> mixed.heaviest(0, 0, much));
        }
        is(40, k.heaviest(0, 0, 0));
        is(40, k.heaviest(0, 0, 100000000));
    }

    private void sparedOfEach() {
        SlopeKeeper k = with("plus 1;", "plus 2;plus 3;", "plus 4;", "plus 5;");
        is(1, k.spared(0, 0));
        is(2, k.spared(1, 0));
        is(3, k.spared(1, 1));
        is(4, k.spared(2, 0));
        is(5, k.spared(3, 0));
        changesNothing(mixed -> mixed.spared(0, 1));
    }

    private void noSuchSpared() {
        SlopeKeeper k = with("kink 0 5;rise;", "rise;", "rise;", "rise;");
        noSuchCosts(cost -> k.spared(cost, 0));
        for (int step : new int[] {-1, 2, MIN, MAX}) {
            noSuch(() -> k.spared(0, step));
            changesNothing(mixed -> mixed.spared(3, step));
        }
        noSuch(() -> new SlopeKeeper().spared(0, 0));
    }

    private void dearestAnswers() {
        SlopeKeeper k = with("plus 1;", "rise;plus 3;");
        is(0, k.dearest(0));
        is(1, k.dearest(1));
        is(NONE, k.dearest(2));
        k.takes(0, 0);
        is(NONE, k.dearest(0));
        is(39, with("plus 1;".repeat(39) + "plus 2;").dearest(0));
    }

    private void toldBytes() {
        String text = "kink -5 3;plus 10;";
        SlopeKeeper k = with(text);
        is(text.length(), k.told(0, NONE));
        for (int i = 0; i < text.length(); i++) {
            is(text.charAt(i), k.told(0, i));
        }
        is(0, k.told(1, NONE));
        is(560, with("under -500 99;".repeat(40)).told(0, NONE));
        is(';', with("under -500 99;".repeat(40)).told(0, 559));
    }

    private void noSuchTold() {
        SlopeKeeper k = with("rise;", "rise;", "rise;", "rise;");
        noSuchCosts(cost -> k.told(cost, 0));
        noSuchCosts(cost -> k.told(cost, NONE));
        for (int i : new int[] {-2, 5, MIN, MAX}) {
            noSuch(() -> k.told(0, i));
            changesNothing(mixed -> mixed.told(3, i == 5 ? 6 : i));
        }
        noSuch(() -> new SlopeKeeper().told(0, 0));
    }

    private void noteAnswers() {
        SlopeKeeper k = new SlopeKeeper();
        is(1, k.note(100000, 5));
        is(2, k.note(-100000, Long.MIN_VALUE));
        is(3, k.note(0, Long.MAX_VALUE));
        is(4, k.note(0, Long.MAX_VALUE));
        is(4, k.count(5));
        is(0, k.count(4));
        k.forget();
        is(1, k.note(0, 0));
    }

    private void noteRefused() {
        SlopeKeeper k = with("kink 0 5;");
        for (int i = 1; i <= 8; i++) {
            k.note(1, 5);
        }
        is(NONE, k.note(1, 6));
        is(NONE, k.note(100001, 6));
        is(2, k.count(9));
        is(8, k.count(5));
        is(5, k.fits(0, 1));
        for (int x : NO_XS) {
            is(NONE, new SlopeKeeper().note(x, 0));
            countsAlone(2, mixed -> mixed.note(x, 0));
        }
        for (int x : FARTHEST_XS) {
            is(1, new SlopeKeeper().note(x, 0));
        }
    }

    private void noSuchFits() {
        SlopeKeeper k = with("kink 0 5;rise;over 0 1;", "kink 0 5;kink 0 5;kink 0 5;kink 0 5;");
        for (int step : new int[] {-1, 1, 3, MIN, MAX}) {
            noSuch(() -> k.fits(step, 0));
            noSuch(() -> k.fits(step, 1));
        }
        for (int step : new int[] {-1, 2, 3, MIN, MAX}) {
            changesNothing(mixed -> mixed.fits(step, 0));
        }
        for (int what : new int[] {-1, 2, MIN, MAX}) {
            noSuch(() -> k.fits(0, what));
            changesNothing(mixed -> mixed.fits(0, what));
        }
        noSuch(() -> new SlopeKeeper().fits(0, 0));
        is(41, k.fits(2, 0));
    }

    private void lookAnswers() {
        SlopeKeeper k = with("over 3 5;under 12 2;");
        is(4, k.look(0, 0));
        is(41, k.look(0, 1));
        is(-20, k.look(1, 0));
        k.note(13, 51);
        is(NOWHERE, k.look(0, 0));
        is(0, k.look(0, 1));
    }

    private void noSuchLook() {
        SlopeKeeper k = with("kink 0 5;rise;over 0 1;", "kink 0 5;kink 0 5;kink 0 5;kink 0 5;");
        for (int step : new int[] {-1, 1, 3, MIN, MAX}) {
            noSuch(() -> k.look(step, 0));
            noSuch(() -> k.look(step, 1));
        }
        for (int step : new int[] {-1, 2, 3, MIN, MAX}) {
            changesNothing(mixed -> mixed.look(step, 0));
        }
        for (int what : new int[] {-1, 2, MIN, MAX}) {
            noSuch(() -> k.look(0, what));
            changesNothing(mixed -> mixed.look(0, what));
        }
        noSuch(() -> new SlopeKeeper().look(0, 0));
    }

    private void forget() {
        SlopeKeeper k = with("kink 0 5;");
        k.forget();
        is(0, k.count(5));
        for (int i = 1; i <= 8; i++) {
            k.note(i, 41 * i);
        }
        is(0, k.fits(0, 0));
        k.forget();
        is(0, k.count(5));
        is(41, k.fits(0, 0));
        for (int i = 1; i <= 8; i++) {
            is(i, k.note(i, 4 * i));
        }
        is(4, k.fits(0, 1));
        is(1, k.count(4));
        is(1, k.count(0));
        k.note(MAX, 0);
        k.forget();
        is(1, k.count(9));
    }
}
