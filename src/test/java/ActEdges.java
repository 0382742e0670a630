/** Terms 2: acts and how they are undone; status and image of Terms 3; promises 1, 5, 28 to 32, 38, 39. */
final class ActEdges extends Edges {
    ActEdges(Book book, Due due) {
        super(book, due);
    }

    @Override
    void all() {
        part("Terms 2");
        tells("ACTS (at most 40 are kept, the latest ones):", this::fortyActs);
        tells("a COST is told by a TEXT (in place of its STEPS);", this::textInPlace);
        tells("a STEP is told behind all,", this::behindAll);
        tells("or at a place among them (ahead of what was there);", this::aheadOfWhatWasThere);
        tells("a STEP of a COST goes;", this::stepGoes);
        tells("a COST becomes as another one (its STEPS; what was on top by 'and' stays as it was then).", this::becomesAsAnother);
        tells("They are UNDONE, the last one first.", this::lastOneFirst);
        part("Terms 3");
        tells("STATUS: how many calls were refused: 0 TEXTS with a FAULT, 1 ACTS, 2 what is NOTED.", this::status);
        tells("AN IMAGE keeps COSTS,", this::imageKeepsCosts);
        tells("ACTS that are kept,", this::imageKeepsActs);
        tells("what is NOTED,", this::imageKeepsNotes);
        tells("STATUS.", this::imageKeepsStatus);
        part("Promise 1");
        tells("No STEPS.", this::newObject);
        part("Promise 5");
        tells("0 to 3 STEPS of COSTS,", this::countsSteps);
        tells("4 ACTS that are kept,", this::countsActs);
        tells("5 NOTED,", this::countsNotes);
        tells("6 bytes of the tape,", this::countsBytes);
        tells("7 to 9 STATUS 0 to 2.", this::countsRefused);
        tells("NoSuchElementException: another what.", this::countsNothingElse);
        part("Promise 28");
        tells("A STEP is told", this::doesOne);
        tells("(b isn't looked at where it has one number,", this::secondNotLookedAt);
        tells("a neither where it has none):", this::firstNotLookedAt);
        tells("STEPS then.", this::doesAnswersSteps);
        tells("NONE (STATUS 1): no such COST,", this::doesNoCost);
        tells("no such kind,", this::doesNoKind);
        tells("numbers,", this::doesNumbers);
        tells("'and' of itself,", this::doesAndOfItself);
        tells("there are 40,", this::doesForty);
        tells("it is TOO MUCH.", this::doesTooMuch);
        part("Promise 29");
        tells("A STEP is told at the i-th place (0 on; as many as there are: behind all):", this::putsAtPlaces);
        tells("STEPS then.", this::putsAnswersSteps);
        tells("NONE (STATUS 1): no such place,", this::putsNoPlace);
        tells("else likewise.", this::putsElseLikewise);
        part("Promise 30");
        tells("The i-th STEP of a COST goes:", this::takesOne);
        tells("STEPS then.", this::takesAnswersSteps);
        tells("NONE (STATUS 1): no such COST, STEP,", this::takesNone);
        tells("it is TOO MUCH then.", this::takesTooMuch);
        part("Promise 31");
        tells("A COST becomes as another one: STEPS then.", this::copies);
        tells("NONE (STATUS 1): no such COSTS, they are one,", this::copiesNoCosts);
        tells("it would be on top of itself ('and' of it among those STEPS).", this::copyOnTopOfItself);
        part("Promise 32");
        tells("The last ACT is UNDONE: how many are left.", this::undoes);
        tells("NONE: there is none.", this::undoesNone);
        part("Promise 38");
        tells("AN IMAGE is kept, in place of another one.", this::imageInPlace);
        part("Promise 39");
        tells("It is as the IMAGE again: true.", this::restores);
        tells("False: there is none.", this::restoresNone);
    }

    private void fortyActs() {
        SlopeKeeper k = new SlopeKeeper();
        for (int i = 1; i <= 40; i++) {
            is(i, k.does(0, PLUS, 1, 0));
            is(i, k.count(4));
        }
        is(1, k.does(1, PLUS, 1, 0));
        is(40, k.count(4));
        is(0, Due.text(k, 2, "rise;"));
        is(40, k.count(4));
        is(1, k.copy(3, 2));
        is(2, k.puts(3, 0, RISE, 0, 0));
        is(1, k.takes(3, 0));
        is(40, k.count(4));
        for (int left = 39; left >= 0; left--) {
            is(left, k.undo());
            is(left, k.count(4));
        }
        is(NONE, k.undo());
        is(5, k.count(0));
        is(5, k.least(0));
        is(0, k.count(1) + k.count(2) + k.count(3));
    }

    private void textInPlace() {
        SlopeKeeper k = with("kink 3 2;plus 4;");
        is(0, Due.text(k, 0, "plus 5;"));
        is("plus 5;", Due.told(k, 0));
        is(5, k.at(0, 9));
        is(1, k.undo());
        is("kink 3 2;plus 4;", Due.told(k, 0));
        is(16, k.at(0, 9));
    }

    private void behindAll() {
        SlopeKeeper k = with("kink 3 2;");
        is(2, k.does(0, RISE, 0, 0));
        is(3, k.puts(0, 2, PLUS, 6, 0));
        is("kink 3 2;rise;plus 6;", Due.told(k, 0));
        is(6, k.at(0, 9));
        is(2, k.undo());
        is("kink 3 2;rise;", Due.told(k, 0));
        is(1, k.undo());
        is("kink 3 2;", Due.told(k, 0));
        is(12, k.at(0, 9));
    }

    private void aheadOfWhatWasThere() {
        SlopeKeeper k = with("kink 3 2;rise;");
        is(3, k.puts(0, 1, DRIFT, 4, 0));
        is("kink 3 2;drift 4;rise;", Due.told(k, 0));
        is(4, k.puts(0, 0, OVER, 1, 5));
        is("over 1 5;kink 3 2;drift 4;rise;", Due.told(k, 0));
        is(5, k.puts(0, 3, PLUS, 8, 0));
        is("over 1 5;kink 3 2;drift 4;plus 8;rise;", Due.told(k, 0));
        is(12, k.at(0, 5));
        is(12, k.at(0, 9));
        is(3, k.undo());
        is(2, k.undo());
        is("kink 3 2;drift 4;rise;", Due.told(k, 0));
        is(0, k.at(0, 7));
        is(2, k.at(0, 6));
    }

    private void stepGoes() {
        SlopeKeeper k = with("kink 3 2;drift 4;rise;plus 8;");
        is(3, k.takes(0, 2));
        is("kink 3 2;drift 4;plus 8;", Due.told(k, 0));
        is(12, k.at(0, 9));
        is(2, k.takes(0, 0));
        is("drift 4;plus 8;", Due.told(k, 0));
        is(8, k.at(0, 9));
        is(2, k.undo());
        is(1, k.undo());
        is("kink 3 2;drift 4;rise;plus 8;", Due.told(k, 0));
        is(8, k.at(0, 9));
        is(10, k.at(0, 6));
    }

    private void becomesAsAnother() {
        SlopeKeeper k = with("plus 1;", "and 0;kink 2 3;", "rise;");
        k.does(0, PLUS, 50, 0);
        is(2, k.copy(2, 1));
        is("and 0;kink 2 3;", Due.told(k, 2));
        is(4, k.at(2, 3));
        reads(k, 1, "plus 9;");
        is(4, k.at(2, 3));
        is("and 0;kink 2 3;", Due.told(k, 2));
        is(5, k.undo());
        is(4, k.undo());
        is("rise;", Due.told(k, 2));
        is(0, k.at(2, 3));
    }

    private void lastOneFirst() {
        SlopeKeeper k = with("plus 1;", "kink 4 1;");
        k.does(0, PLUS, 2, 0);
        k.copy(3, 1);
        k.puts(0, 0, PLUS, 4, 0);
        k.takes(1, 0);
        k.does(2, AND, 0, 0);
        is(7, k.least(0));
        is(7, k.least(2));
        is(6, k.undo());
        is(0, k.count(2));
        is(5, k.undo());
        is(2, k.at(1, 6));
        is(4, k.undo());
        is("plus 1;plus 2;", Due.told(k, 0));
        is(3, k.undo());
        is(0, k.count(3));
        is(2, k.undo());
        is("plus 1;", Due.told(k, 0));
        is(1, k.undo());
        is(0, k.count(1));
        is(0, k.undo());
        is(0, k.count(0));
    }

    private void statusIs(SlopeKeeper k, int texts, int acts, int notes) {
        is(texts, k.count(7));
        is(acts, k.count(8));
        is(notes, k.count(9));
    }

    private void status() {
        SlopeKeeper k = new SlopeKeeper();
        statusIs(k, 0, 0, 0);
        Due.text(k, 0, "x");
        statusIs(k, 1, 0, 0);
        k.does(4, RISE, 0, 0);
        statusIs(k, 1, 1, 0);
        k.puts(0, 1, RISE, 0, 0);
        k.takes(0, 0);
        k.copy(0, 0);
        statusIs(k, 1, 4, 0);
        k.note(100001, 0);
        statusIs(k, 1, 4, 1);
        Due.text(k, 0, "rise;");
        k.does(0, RISE, 0, 0);
        k.note(0, 0);
        statusIs(k, 1, 4, 1);
        illegal(() -> k.text(0, 1));
        noSuch(() -> k.text(4, 0));
        noSuch(() -> k.at(4, 0));
        k.undo();
        k.undo();
        is(NONE, k.undo());
        is(0, k.restore() ? 1 : 0);
        k.forget();
        statusIs(k, 1, 4, 1);
    }

    private void imageKeepsCosts() {
        SlopeKeeper k = with("plus 1;", "and 0;kink 2 3;", "rise;", "move 1 2;");
        k.image();
        for (int cost = 0; cost < 4; cost++) {
            reads(k, cost, "plus 77;");
        }
        is(1, k.restore() ? 1 : 0);
        is("plus 1;", Due.told(k, 0));
        is("and 0;kink 2 3;", Due.told(k, 1));
        is("rise;", Due.told(k, 2));
        is("move 1 2;", Due.told(k, 3));
        is(4, k.at(1, 3));
        is(1, k.least(0));
        is(0, k.least(2) + k.least(3));
    }

    private void imageKeepsActs() {
        SlopeKeeper k = with("plus 1;", "plus 2;");
        k.does(0, PLUS, 4, 0);
        k.image();
        k.undo();
        k.undo();
        k.undo();
        k.does(3, PLUS, 8, 0);
        k.restore();
        is(3, k.count(4));
        is(2, k.undo());
        is(1, k.least(0));
        is(1, k.undo());
        is(0, k.least(1));
        is(0, k.undo());
        is(0, k.least(0));
        is(NONE, k.undo());
        k.restore();
        is(3, k.count(4));
        fullImage();
    }

    private void fullImage() {
        SlopeKeeper k = new SlopeKeeper();
        for (int i = 1; i <= 45; i++) {
            k.does(i % 2, PLUS, i, 0);
        }
        k.image();
        for (int i = 0; i < 41; i++) {
            k.undo();
        }
        k.does(2, RISE, 0, 0);
        k.restore();
        is(40, k.count(4));
        for (int left = 39; left >= 0; left--) {
            is(left, k.undo());
        }
        is(2 + 4, k.least(0));
        is(1 + 3 + 5, k.least(1));
        is(0, k.count(2));
    }

    private void imageKeepsNotes() {
        SlopeKeeper k = with("kink 0 5;");
        k.note(4, 20);
        k.note(5, 25);
        k.image();
        k.forget();
        k.note(6, 12);
        k.note(3, 25);
        k.restore();
        is(2, k.count(5));
        is(1, k.fits(0, 0));
        is(5, k.fits(0, 1));
        k.note(6, 31);
        is(0, k.fits(0, 0));
        k.restore();
        is(2, k.count(5));
        is(1, k.fits(0, 0));
    }

    private void imageKeepsStatus() {
        SlopeKeeper k = new SlopeKeeper();
        Due.text(k, 0, "x");
        k.does(4, RISE, 0, 0);
        k.does(4, RISE, 0, 0);
        for (int i = 0; i < 3; i++) {
            k.note(MAX, 0);
        }
        k.image();
        statusIs(k, 1, 2, 3);
        Due.text(k, 0, "x");
        k.does(4, RISE, 0, 0);
        k.note(MAX, 0);
        statusIs(k, 2, 3, 4);
        k.restore();
        statusIs(k, 1, 2, 3);
    }

    private void newObject() {
        SlopeKeeper k = new SlopeKeeper();
        for (int what = 0; what <= 9; what++) {
            is(0, k.count(what));
        }
        for (int cost = 0; cost < 4; cost++) {
            is(0, k.least(cost));
            is(0, k.flat(cost, 3));
            is(0, k.flat(cost, 4));
            is(NONE, k.dearest(cost));
        }
        is(NONE, k.fault());
        is(NONE, k.undo());
        is(0, k.restore() ? 1 : 0);
        SlopeKeeper other = new SlopeKeeper();
        k.does(0, PLUS, 5, 0);
        is(0, other.least(0));
    }

    private void countsSteps() {
        SlopeKeeper k = with("rise;", "rise;rise;", "rise;rise;rise;");
        for (int what = 0; what < 4; what++) {
            is((what + 1) % 4, k.count(what));
        }
        k.does(3, RISE, 0, 0);
        is(1, k.count(3));
        k.takes(2, 0);
        is(2, k.count(2));
        k.undo();
        is(3, k.count(2));
    }

    private void countsActs() {
        SlopeKeeper k = new SlopeKeeper();
        is(0, k.count(4));
        for (int i = 1; i <= 41; i++) {
            k.does(i % 2, RISE, 0, 0);
            is(Math.min(i, 40), k.count(4));
        }
        k.undo();
        is(39, k.count(4));
        k.does(4, RISE, 0, 0);
        is(39, k.count(4));
    }

    private void countsNotes() {
        SlopeKeeper k = new SlopeKeeper();
        for (int i = 1; i <= 9; i++) {
            k.note(i, i);
            is(Math.min(i, 8), k.count(5));
        }
        k.forget();
        is(0, k.count(5));
    }

    private void countsBytes() {
        SlopeKeeper k = new SlopeKeeper();
        is(0, k.count(6));
        k.feed(0, 0, 0, 0, 0);
        is(20, k.count(6));
        k.feed(0, 0, 0, 0, 0);
        is(40, k.count(6));
        k.text(0, 0);
        is(0, k.count(6));
    }

    private void countsRefused() {
        SlopeKeeper k = new SlopeKeeper();
        for (int i = 1; i <= 3; i++) {
            Due.text(k, 0, "x");
            is(i, k.count(7));
        }
        for (int i = 1; i <= 4; i++) {
            k.takes(0, 0);
            is(i, k.count(8));
        }
        for (int i = 1; i <= 5; i++) {
            k.note(MIN, 0);
            is(i, k.count(9));
        }
        statusIs(k, 3, 4, 5);
    }

    private void countsNothingElse() {
        for (int what : new int[] {-1, 10, MIN, MAX}) {
            noSuch(() -> new SlopeKeeper().count(what));
            changesNothing(k -> k.count(what));
        }
    }

    private void doesOne() {
        SlopeKeeper k = new SlopeKeeper();
        is(1, k.does(3, KINK, -4, 2));
        is(2, k.does(3, MOVE, 1, 3));
        is("kink -4 2;move 1 3;", Due.told(k, 3));
        is(2, k.at(3, 0));
        is(0, k.count(0) + k.count(1) + k.count(2));
        is(2, k.count(4));
    }

    private void secondNotLookedAt() {
        for (int b : new int[] {-1, 100, MIN, MAX}) {
            SlopeKeeper k = new SlopeKeeper();
            is(1, k.does(0, DRIFT, 7, b));
            is(2, k.does(0, PLUS, 7, b));
            is(3, k.does(0, AND, 1, b));
            is(4, k.puts(0, 0, DRIFT, 7, b));
            for (int i = 0; i < 4; i++) {
                is(0, k.step(0, i, 2));
            }
            is(NONE, k.does(0, DRIFT, 501, 0));
        }
    }

    private void firstNotLookedAt() {
        for (int a : new int[] {-1, 1000, MIN, MAX}) {
            SlopeKeeper k = new SlopeKeeper();
            is(1, k.does(0, RISE, a, a));
            is(2, k.does(0, FALL, a, a));
            is(3, k.puts(0, 0, FALL, a, a));
            for (int i = 0; i < 3; i++) {
                is(0, k.step(0, i, 1));
                is(0, k.step(0, i, 2));
            }
        }
    }

    private void doesAnswersSteps() {
        SlopeKeeper k = with("rise;rise;rise;");
        is(4, k.does(0, FALL, 0, 0));
        is(1, k.does(1, FALL, 0, 0));
        is(5, k.does(0, FALL, 0, 0));
        k.takes(0, 0);
        is(5, k.does(0, FALL, 0, 0));
    }

    private void doesNoCost() {
        for (int cost : NO_COSTS) {
            is(NONE, new SlopeKeeper().does(cost, RISE, 0, 0));
            countsAlone(1, k -> k.does(cost, RISE, 0, 0));
        }
    }

    private void doesNoKind() {
        for (int kind : new int[] {-1, 9, MIN, MAX}) {
            is(NONE, new SlopeKeeper().does(0, kind, 0, 0));
            countsAlone(1, k -> k.does(0, kind, 0, 0));
        }
        for (int kind = KINK; kind <= AND; kind++) {
            is(1, new SlopeKeeper().does(0, kind, 1, 1));
        }
    }

    private void doesNumbers() {
        int[][] wrong = {
            {KINK, -501, 0}, {KINK, 501, 0}, {KINK, 0, -1}, {KINK, 0, 100}, {OVER, -501, 0}, {OVER, 501, 0}, {OVER, 0, -1}, {OVER, 0, 100},
            {UNDER, -501, 0}, {UNDER, 501, 0}, {UNDER, 0, -1}, {UNDER, 0, 100}, {DRIFT, -501, 0}, {DRIFT, 501, 0}, {MOVE, -1, 0},
            {MOVE, 100, 0}, {MOVE, 0, -1}, {MOVE, 0, 100}, {PLUS, -1, 0}, {PLUS, 1000, 0}, {AND, -1, 0}, {AND, 4, 0},
        };
        for (int[] step : wrong) {
            is(NONE, new SlopeKeeper().does(0, step[0], step[1], step[2]));
            countsAlone(1, k -> k.does(0, step[0], step[1], step[2]));
        }
    }

    private void doesAndOfItself() {
        for (int cost = 0; cost < 4; cost++) {
            int one = cost;
            is(NONE, new SlopeKeeper().does(cost, AND, cost, 0));
            is(1, new SlopeKeeper().does(cost, AND, (cost + 1) % 4, 0));
            countsAlone(1, k -> k.does(one, AND, one, 0));
        }
    }

    private void doesForty() {
        SlopeKeeper k = with("plus 1;".repeat(39));
        is(40, k.does(0, PLUS, 1, 0));
        is(NONE, k.does(0, PLUS, 1, 0));
        is(NONE, k.does(0, RISE, 0, 0));
        is(2, k.count(8));
        is(40, k.count(0));
        is(40, k.least(0));
        is(2, k.count(4));
        is(39, k.takes(0, 0));
        is(40, k.does(0, RISE, 0, 0));
    }

    private void doesTooMuch() {
        SlopeKeeper far = farAsCanBe();
        is(NONE, far.does(0, DRIFT, 1, 0));
        is(1, far.count(8));
        is(10, far.count(0));
        is(1, far.count(4));
        is(5000, far.flat(0, 0));
        SlopeKeeper heavy = heavyAsCanBe();
        is(NONE, heavy.does(0, OVER, 3, 1));
        is(1, heavy.count(8));
        is(5000, heavy.flat(0, 4));
        is(1, heavy.flat(0, 3));
        SlopeKeeper dear = dearAsCanBe();
        is(NONE, dear.does(3, PLUS, 1, 0));
        is(1, dear.count(8));
        is(100000000, dear.least(3));
    }

    private void putsAtPlaces() {
        SlopeKeeper k = new SlopeKeeper();
        is(1, k.puts(0, 0, PLUS, 1, 0));
        is(2, k.puts(0, 0, PLUS, 2, 0));
        is(3, k.puts(0, 2, PLUS, 3, 0));
        is(4, k.puts(0, 1, PLUS, 4, 0));
        is(5, k.puts(0, 3, PLUS, 5, 0));
        is("plus 2;plus 4;plus 1;plus 5;plus 3;", Due.told(k, 0));
        is(15, k.least(0));
        is(5, k.count(4));
        is(0, k.count(8));
        SlopeKeeper full = with("plus 1;".repeat(39));
        is(40, full.puts(0, 39, PLUS, 9, 0));
        is(9, full.step(0, 39, 1));
    }

    private void putsAnswersSteps() {
        SlopeKeeper k = with("rise;rise;rise;", "rise;");
        is(4, k.puts(0, 1, FALL, 0, 0));
        is(2, k.puts(1, 1, FALL, 0, 0));
        is(1, k.puts(2, 0, FALL, 0, 0));
        is(5, k.puts(0, 1, FALL, 0, 0));
    }

    private void putsNoPlace() {
        SlopeKeeper k = with("rise;rise;");
        for (int i : new int[] {-1, 3, MIN, MAX}) {
            is(NONE, k.puts(0, i, RISE, 0, 0));
        }
        is(4, k.count(8));
        is(NONE, new SlopeKeeper().puts(0, 1, RISE, 0, 0));
        for (int i : new int[] {-1, 4, MIN, MAX}) {
            countsAlone(1, mixed -> mixed.puts(0, i, RISE, 0, 0));
        }
        is(3, k.puts(0, 2, RISE, 0, 0));
    }

    private void putsElseLikewise() {
        int[][] wrong = {
            {-1, RISE, 0, 0}, {4, RISE, 0, 0}, {0, -1, 0, 0}, {0, 9, 0, 0}, {0, KINK, 501, 0}, {0, OVER, 0, 100}, {0, UNDER, -501, 0},
            {0, DRIFT, 501, 0}, {0, MOVE, -1, 0}, {0, MOVE, 0, 100}, {0, PLUS, 1000, 0}, {0, AND, 4, 0}, {0, AND, 0, 0}, {3, AND, 3, 0},
        };
        for (int[] step : wrong) {
            is(NONE, new SlopeKeeper().puts(step[0], 0, step[1], step[2], step[3]));
            countsAlone(1, k -> k.puts(step[0], 0, step[1], step[2], step[3]));
        }
        SlopeKeeper full = with("plus 1;".repeat(40));
        for (int i : new int[] {0, 20, 40}) {
            is(NONE, full.puts(0, i, RISE, 0, 0));
        }
        is(3, full.count(8));
        is(40, full.count(0));
        putsTooMuch();
    }

    private void putsTooMuch() {
        SlopeKeeper far = farAsCanBe();
        is(11, far.puts(0, 0, DRIFT, 500, 0));
        is(NONE, far.puts(0, 2, DRIFT, 1, 0));
        is(NONE, far.puts(0, 11, DRIFT, 1, 0));
        is(12, far.puts(0, 11, DRIFT, -500, 0));
        is(NONE, far.puts(0, 5, DRIFT, 500, 0));
        is(3, far.count(8));
        is(4500, far.flat(0, 0));
        SlopeKeeper heavy = heavyAsCanBe();
        is(NONE, heavy.puts(0, 0, OVER, 3, 1));
        is(1, heavy.count(8));
        is(26, heavy.count(0));
        SlopeKeeper dear = dearAsCanBe();
        is(NONE, dear.puts(3, 2, PLUS, 1, 0));
        is(6, dear.puts(3, 2, PLUS, 0, 0));
        is(1, dear.count(8));
    }

    private void takesOne() {
        SlopeKeeper k = with("plus 1;plus 2;plus 4;plus 8;");
        is(3, k.takes(0, 0));
        is("plus 2;plus 4;plus 8;", Due.told(k, 0));
        is(2, k.takes(0, 2));
        is("plus 2;plus 4;", Due.told(k, 0));
        is(6, k.least(0));
        is(3, k.count(4));
        SlopeKeeper full = with("plus 1;".repeat(39) + "plus 9;");
        is(39, full.takes(0, 39));
        is(39, full.least(0));
    }

    private void takesAnswersSteps() {
        SlopeKeeper k = with("plus 1;plus 2;plus 4;", "plus 1;");
        is(2, k.takes(0, 1));
        is(0, k.takes(1, 0));
        is(1, k.takes(0, 1));
        is(0, k.takes(0, 0));
        is(0, k.least(0));
    }

    private void takesNone() {
        SlopeKeeper k = with("rise;rise;");
        for (int cost : NO_COSTS) {
            is(NONE, k.takes(cost, 0));
            countsAlone(1, mixed -> mixed.takes(cost, 0));
        }
        for (int i : new int[] {-1, 2, MIN, MAX}) {
            is(NONE, k.takes(0, i));
        }
        for (int i : new int[] {-1, 3, MIN, MAX}) {
            countsAlone(1, mixed -> mixed.takes(0, i));
        }
        is(NONE, k.takes(1, 0));
        is(9, k.count(8));
        is(2, k.count(0));
        is(1, k.takes(0, 1));
        is(0, k.takes(0, 0));
        is(NONE, k.takes(0, 0));
    }

    private void takesTooMuch() {
        SlopeKeeper far = with("kink 500 1;" + "drift 500;".repeat(5) + "drift -1;" + "drift 500;".repeat(4) + "drift 1;");
        is(NONE, far.takes(0, 6));
        is(1, far.count(8));
        is(12, far.count(0));
        is(1, far.count(4));
        is(5000, far.flat(0, 0));
        is(11, far.takes(0, 11));
        is(10, far.takes(0, 6));
        SlopeKeeper between = with("kink 500 1;" + "drift 500;".repeat(9) + "drift -500;drift 500;drift -500;");
        is(NONE, between.takes(0, 10));
        is(12, between.takes(0, 12));
        SlopeKeeper heavy = with("kink 0 99;".repeat(12) + "rise;" + "kink 0 99;".repeat(19) + "over 0 50;");
        is(5000, heavy.flat(0, 4));
        is(NONE, heavy.takes(0, 12));
        is(32, heavy.takes(0, 0));
        is(1, heavy.count(8));
        SlopeKeeper dear = dearAsCanBe();
        reads(dear, 3, "and 2;and 2;and 2;and 2;under 500 99;fall;over -500 99;and 2;");
        is(NONE, dear.takes(3, 5));
        is(7, dear.takes(3, 6));
    }

    private void copies() {
        SlopeKeeper k = with("kink 3 2;plus 1;", "rise;rise;rise;");
        is(2, k.copy(1, 0));
        is("kink 3 2;plus 1;", Due.told(k, 1));
        is(3, k.at(1, 4));
        is(3, k.count(4));
        is(0, k.copy(0, 3));
        is(0, k.count(0));
        is(0, k.at(0, 4));
        is(3, k.at(1, 4));
        SlopeKeeper full = with("plus 1;".repeat(40));
        is(40, full.copy(3, 0));
        is(40, full.copy(0, 3));
        is(40, full.least(0));
    }

    private void copiesNoCosts() {
        for (int cost : NO_COSTS) {
            is(NONE, with("rise;").copy(cost, 0));
            is(NONE, with("rise;").copy(0, cost));
            is(NONE, with("rise;").copy(cost, cost));
            countsAlone(1, k -> k.copy(cost, 0));
            countsAlone(1, k -> k.copy(0, cost));
        }
        for (int cost = 0; cost < 4; cost++) {
            int one = cost;
            is(NONE, new SlopeKeeper().copy(cost, cost));
            countsAlone(1, k -> k.copy(one, one));
        }
    }

    private void copyOnTopOfItself() {
        SlopeKeeper k = with("plus 1;", "rise;and 0;", "and 1;");
        is(NONE, k.copy(0, 1));
        is(1, k.count(8));
        is("plus 1;", Due.told(k, 0));
        is(3, k.count(4));
        is(1, k.copy(0, 2));
        is(3, k.undo());
        is(2, k.copy(3, 1));
        is(NONE, k.copy(0, 3));
        is(1, k.takes(1, 1));
        is(1, k.copy(0, 1));
        is(NONE, k.copy(0, 3));
        is(3, k.count(8));
        countsAlone(1, mixed -> mixed.copy(1, 2));
    }

    private void undoes() {
        SlopeKeeper k = with("plus 1;");
        k.does(0, PLUS, 2, 0);
        k.does(0, PLUS, 4, 0);
        k.does(0, PLUS, 1000, 0);
        is(2, k.undo());
        is(3, k.least(0));
        is(1, k.does(1, PLUS, 8, 0));
        is(2, k.undo());
        is(3, k.least(0));
        is(1, k.undo());
        is(1, k.least(0));
        is(0, k.undo());
        is(0, k.least(0));
        is(1, k.count(8));
        undoesNoNotes();
    }

    private void undoesNoNotes() {
        SlopeKeeper k = with("kink 0 1;");
        k.note(1, 1);
        k.feed(0, 0, 0, 0, 0);
        is(0, k.undo());
        is(1, k.count(5));
        is(20, k.count(6));
    }

    private void undoesNone() {
        SlopeKeeper k = new SlopeKeeper();
        is(NONE, k.undo());
        is(NONE, k.undo());
        is(0, k.count(4));
        statusIs(k, 0, 0, 0);
        k.does(0, RISE, 0, 0);
        is(0, k.undo());
        is(NONE, k.undo());
        k.does(0, RISE, 0, 0);
        is(0, k.undo());
        changesNothing(ActEdges::withoutActs, SlopeKeeper::undo);
    }

    private static SlopeKeeper withoutActs() {
        SlopeKeeper k = mixed();
        for (int i = 0; i < 6; i++) {
            k.undo();
        }
        return k;
    }

    private void imageInPlace() {
        SlopeKeeper k = with("plus 1;");
        k.image();
        is(1, k.least(0));
        is(1, k.count(4));
        k.does(0, PLUS, 2, 0);
        k.image();
        k.does(0, PLUS, 4, 0);
        is(1, k.restore() ? 1 : 0);
        is(3, k.least(0));
        k.undo();
        k.undo();
        k.image();
        k.does(0, PLUS, 8, 0);
        is(1, k.restore() ? 1 : 0);
        is(0, k.count(0));
        is(0, k.count(4));
    }

    private void restores() {
        SlopeKeeper k = with("plus 1;");
        k.image();
        for (int round = 0; round < 3; round++) {
            k.does(0, PLUS, 2, 0);
            is(1, k.restore() ? 1 : 0);
            is(1, k.least(0));
            is(1, k.count(0));
            is(1, k.count(4));
            is(1, k.restore() ? 1 : 0);
        }
        is(0, k.undo());
        is(1, k.restore() ? 1 : 0);
        is(1, k.least(0));
        restoresNoTape();
    }

    /** An image keeps neither the tape nor the place of the latest fault. */
    private void restoresNoTape() {
        SlopeKeeper k = new SlopeKeeper();
        k.feed(0, 0, 0, 0, 0);
        k.image();
        k.text(0, 1);
        Due.feed(k, "rise;".repeat(8));
        k.restore();
        is(40, k.count(6));
        is(0, k.fault());
        is(0, k.text(0, 40));
        is(8, k.count(0));
    }

    private void restoresNone() {
        SlopeKeeper k = with("plus 1;");
        is(0, k.restore() ? 1 : 0);
        is(1, k.least(0));
        is(1, k.count(4));
        k.image();
        is(1, k.restore() ? 1 : 0);
        changesNothing(ActEdges::withoutImage, keeper -> keeper.restore());
    }

    private static SlopeKeeper withoutImage() {
        SlopeKeeper k = new SlopeKeeper();
        Due.text(k, 0, "kink 3 2;");
        k.note(4, 2);
        k.does(4, RISE, 0, 0);
        return k;
    }
}
