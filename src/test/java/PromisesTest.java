import java.util.function.Consumer;

/** Each promise by itself: ordinary inputs, the edges that the document names, wrong inputs. */
public final class PromisesTest {
    private static final int NONE = SlopeKeeper.NONE;
    private static final int NOWHERE = SlopeKeeper.NOWHERE;
    private static final long NO_SUCH = Due.NO_SUCH;
    private static final long ILLEGAL = Due.ILLEGAL;
    private static final int MIN = Integer.MIN_VALUE;
    private static final int MAX = Integer.MAX_VALUE;
    private static final int[] WRONG_COSTS = {-1, 4, MIN, MAX};
    private static final int[] WRONG_XS = {-100001, 100001, MIN, MAX};
    private static final Due due = new Due();

    public static void main(String[] args) {
        newObject();
        feed();
        text();
        faultAndCount();
        step();
        atAndLeast();
        flat();
        kinkAndSlope();
        path();
        off();
        split();
        shared();
        stretch();
        leads();
        against();
        meet();
        heaviest();
        spared();
        gapAndAlike();
        told();
        does();
        puts();
        takes();
        copy();
        undo();
        notes();
        years();
        image();
        tooMuch();
        due.end();
    }

    private static SlopeKeeper with(String... texts) {
        SlopeKeeper keeper = new SlopeKeeper();
        for (int cost = 0; cost < texts.length; cost++) {
            due.same("text " + texts[cost], 0, Due.text(keeper, cost, texts[cost]));
        }
        return keeper;
    }

    private static void refusesCosts(String call, Consumer<Integer> made) {
        for (int cost : WRONG_COSTS) {
            due.is(call + " of cost " + cost, NO_SUCH, () -> { made.accept(cost); return 0; });
        }
    }

    private static void refusesXs(String call, Consumer<Integer> made) {
        for (int x : WRONG_XS) {
            due.is(call + " at " + x, ILLEGAL, () -> { made.accept(x); return 0; });
        }
        due.is(call + " at 100000", 0, () -> { made.accept(100000); return 0; });
        due.is(call + " at -100000", 0, () -> { made.accept(-100000); return 0; });
    }

    private static void newObject() {
        SlopeKeeper k = new SlopeKeeper();
        for (int what = 0; what <= 9; what++) {
            due.same("count " + what, 0, k.count(what));
        }
        for (int cost = 0; cost < 4; cost++) {
            due.same("least", 0, k.least(cost));
            due.same("at", 0, k.at(cost, -100000));
            due.same("kinks", 0, k.flat(cost, 3));
            due.same("weights", 0, k.flat(cost, 4));
        }
        due.same("fault", NONE, k.fault());
        due.same("undo", NONE, k.undo());
        due.same("restore", 0, k.restore() ? 1 : 0);
        due.same("NONE", -1, NONE);
        due.same("NOWHERE", -10000000, NOWHERE);
    }

    private static void feed() {
        SlopeKeeper k = new SlopeKeeper();
        for (int i = 1; i <= 30; i++) {
            due.same("feed", 20 * i, k.feed(0x20202020, 0x20202020, 0x20202020, 0x20202020, 0x20202020));
        }
        due.same("feed beyond", NONE, k.feed(0, 0, 0, 0, 0));
        due.same("tape", 600, k.count(6));
        due.same("all blanks", 0, k.text(0, 600));
        due.same("tape", 0, k.count(6));
        due.same("feed", 20, k.feed(('p' << 24) + ('l' << 16) + ('u' << 8) + 's', (' ' << 24) + ('7' << 16) + (';' << 8) + 10, 0, 0, 0));
        due.same("the highest byte first", 0, k.text(0, 8));
        due.same("plus 7", 7, k.least(0));
    }

    private static void text() {
        SlopeKeeper k = with("kink 3 2;");
        Due.feed(k, "rise;");
        refusesCosts("text", cost -> k.text(cost, 900));
        due.is("more than the tape has", ILLEGAL, () -> k.text(0, 21));
        due.is("below 0", ILLEGAL, () -> k.text(0, -1));
        due.is("far below 0", ILLEGAL, () -> k.text(0, MIN));
        due.same("the tape stays", 20, k.count(6));
        due.same("nothing is refused by that", 0, k.count(7));
        due.same("text", 0, k.text(0, 5));
        due.same("in place of its steps", 1, k.count(0));
        due.same("kind", 5, k.step(0, 0, 0));
        due.same("acts", 2, k.count(4));
        due.same("fault", 1, Due.text(k, 0, "rise;fall"));
        due.same("all stays", 1, k.count(0));
        due.same("acts stay", 2, k.count(4));
        due.same("status", 1, k.count(7));
        due.same("the tape is empty all the same", 0, k.count(6));
        due.same("an empty text", 0, k.text(0, 0));
        due.same("no steps", 0, k.count(0));
        due.same("an act", 3, k.count(4));
        due.same("undo", 2, k.undo());
        due.same("steps again", 1, k.count(0));
        due.same("blanks count for nothing", 0, Due.text(k, 1, "\n kink-  5\n3 ;over 007 1;under5 4;drift - 9;move1 2;rise ; fall;plus 999;and 0;"));
        due.same("steps", 9, k.count(1));
        due.same("told", 1, "kink -5 3;over 7 1;under 5 4;drift -9;move 1 2;rise;fall;plus 999;and 0;".equals(Due.told(k, 1)) ? 1 : 0);
    }

    private static void faultAndCount() {
        SlopeKeeper k = new SlopeKeeper();
        due.same("fault 1", 1, Due.text(k, 0, "rise; rise"));
        due.same("at its length", 10, k.fault());
        due.is("a text that throws", ILLEGAL, () -> k.text(0, 1));
        due.same("the latest one's stays", 10, k.fault());
        due.same("text", 0, Due.text(k, 0, "rise;"));
        due.same("without", NONE, k.fault());
        k.does(0, 9, 0, 0);
        k.does(0, 9, 0, 0);
        k.note(100001, 0);
        k.note(0, 0);
        k.note(1, 0);
        k.does(2, 5, 0, 0);
        k.does(2, 5, 0, 0);
        k.does(3, 5, 0, 0);
        k.feed(0, 0, 0, 0, 0);
        int[] counts = {1, 0, 2, 1, 4, 2, 20, 1, 2, 1};
        for (int what = 0; what < counts.length; what++) {
            due.same("count " + what, counts[what], k.count(what));
        }
        for (int what : new int[] {-1, 10, MIN, MAX}) {
            due.is("count " + what, NO_SUCH, () -> k.count(what));
        }
    }

    private static void step() {
        SlopeKeeper k = with("kink -3 2;move 4 5;drift -6;fall;", "and 0;");
        int[][] steps = {{0, -3, 2}, {4, 4, 5}, {3, -6, 0}, {6, 0, 0}};
        for (int i = 0; i < 4; i++) {
            for (int what = 0; what < 3; what++) {
                due.same("step", steps[i][what], k.step(0, i, what));
            }
        }
        due.same("and", 8, k.step(1, 0, 0));
        due.same("and", 0, k.step(1, 0, 1));
        refusesCosts("step", cost -> k.step(cost, 0, 0));
        for (int i : new int[] {-1, 4, MIN, MAX}) {
            due.is("step " + i, NO_SUCH, () -> k.step(0, i, 0));
        }
        due.is("what -1", NO_SUCH, () -> k.step(0, 0, -1));
        due.is("what 3", NO_SUCH, () -> k.step(0, 0, 3));
    }

    private static void atAndLeast() {
        SlopeKeeper k = with("kink 3 2;", "over -4 5;", "under 4 5;", "kink 0 1;move 2 3;plus 10;");
        due.same("kink", 20, k.at(0, 13));
        due.same("kink", 20, k.at(0, -7));
        due.same("kink", 199994, k.at(0, 100000));
        due.same("over", 0, k.at(1, -5));
        due.same("over", 5, k.at(1, -3));
        due.same("under", 0, k.at(2, 5));
        due.same("under", 5, k.at(2, 3));
        due.same("move up", 10, k.at(3, 3));
        due.same("move up", 11, k.at(3, 4));
        due.same("move down", 10, k.at(3, -2));
        due.same("move down", 11, k.at(3, -3));
        due.same("least", 10, k.least(3));
        k.does(0, 5, 0, 0);
        due.same("rise", 0, k.at(0, 13));
        due.same("rise", 20, k.at(0, -7));
        k.undo();
        k.does(0, 6, 0, 0);
        due.same("fall", 20, k.at(0, 13));
        due.same("fall", 0, k.at(0, -7));
        k.does(0, 3, 100, 0);
        due.same("drift", 20, k.at(0, 113));
        refusesCosts("at", cost -> k.at(cost, 100001));
        refusesXs("at", x -> k.at(0, x));
        refusesCosts("least", cost -> k.least(cost));
        SlopeKeeper two = with("kink 0 3;kink 10 2;");
        due.same("the heavier one wins", 20, two.least(0));
        due.same("at it", 20, two.at(0, 0));
    }

    private static void flat() {
        SlopeKeeper k = with("kink -9 1;kink -2 1;", "kink 2 1;kink 9 1;", "over 5 2;", "kink -2 3;kink 2 3;");
        int[][] flats = {{-9, -2, -2, 2, 4}, {2, 9, 2, 2, 4}, {NOWHERE, 5, 0, 1, 2}, {-2, 2, 0, 2, 12}};
        for (int cost = 0; cost < 4; cost++) {
            for (int what = 0; what < 5; what++) {
                due.same("flat " + cost + " " + what, flats[cost][what], k.flat(cost, what));
            }
        }
        due.same("text", 0, Due.text(k, 3, "over 5 1;over 7 1;under 2 1;under 1 1;"));
        due.same("from", 2, k.flat(3, 0));
        due.same("to", 5, k.flat(3, 1));
        k.does(2, 3, -9, 0);
        due.same("nearest to 0 of a flat without a least x", -4, k.flat(2, 2));
        refusesCosts("flat", cost -> k.flat(cost, 0));
        for (int what : new int[] {-1, 5, MIN, MAX}) {
            due.is("flat " + what, NO_SUCH, () -> k.flat(0, what));
        }
    }

    private static void kinkAndSlope() {
        SlopeKeeper k = with("kink 4 2;under -3 1;kink 4 1;over 9 0;");
        due.same("two kinks, none without a weight", 2, k.flat(0, 3));
        due.same("place", -3, k.kink(0, 0, 0));
        due.same("weight", 1, k.kink(0, 0, 1));
        due.same("place", 4, k.kink(0, 1, 0));
        due.same("weight", 6, k.kink(0, 1, 1));
        refusesCosts("kink", cost -> k.kink(cost, 0, 0));
        for (int i : new int[] {-1, 2, MIN, MAX}) {
            due.is("kink " + i, NO_SUCH, () -> k.kink(0, i, 0));
        }
        due.is("what 2", NO_SUCH, () -> k.kink(0, 0, 2));
        due.is("what -1", NO_SUCH, () -> k.kink(0, 0, -1));
        due.same("slope", -4, k.slope(0, -3, 0));
        due.same("slope", -3, k.slope(0, -3, 1));
        due.same("slope", -3, k.slope(0, 4, 0));
        due.same("slope", 3, k.slope(0, 4, 1));
        due.same("slope", 3, k.slope(0, 100000, 1));
        due.same("slope", -4, k.slope(0, -100000, 0));
        due.same("slope", -3, k.slope(0, -2, 0));
        due.same("slope", 3, k.slope(0, 5, 0));
        refusesCosts("slope", cost -> k.slope(cost, 100001, 0));
        due.is("what ahead of x", NO_SUCH, () -> k.slope(0, 100001, 2));
        due.is("what", NO_SUCH, () -> k.slope(0, 0, -1));
        refusesXs("slope", x -> k.slope(0, x, 1));
    }

    private static void path() {
        SlopeKeeper k = with("kink 0 5;kink 3 5;move 2 4;drift 10;plus 6;and 1;", "rise;");
        k.undo();
        due.same("no 'and' yet", 6, k.count(0));
        int[][] ends = {{12, 12, 2, 2}, {20, 20, 10, 6}, {0, 0, -10, -8}, {9, 9, -1, 0}};
        for (int[] end : ends) {
            due.same("path behind all", end[1], k.path(0, end[0], 6));
            due.same("path behind plus", end[1], k.path(0, end[0], 4));
            due.same("path ahead of drift", end[2], k.path(0, end[0], 3));
            due.same("path ahead of move", end[3], k.path(0, end[0], 2));
            due.same("path ahead of all", end[3], k.path(0, end[0], 0));
        }
        due.same("paid kink", 30, k.paid(0, 20, 0));
        due.same("paid kink", 15, k.paid(0, 20, 1));
        due.same("paid move", 0, k.paid(0, 20, 2));
        due.same("paid drift", 0, k.paid(0, 20, 3));
        due.same("paid plus", 6, k.paid(0, 20, 4));
        due.same("all together", 51, k.at(0, 20));
        SlopeKeeper r = with("kink 0 5;kink 3 5;rise;", "kink 0 5;kink 3 5;fall;", "and 0;under 9 2;over 1 3;");
        due.same("rise from above", 3, r.path(0, 9, 2));
        due.same("rise in the flat", 2, r.path(0, 2, 2));
        due.same("rise from below", -2, r.path(0, -2, 2));
        due.same("fall from below", 0, r.path(1, -9, 2));
        due.same("fall in the flat", 1, r.path(1, 1, 2));
        due.same("fall from above", 5, r.path(1, 5, 2));
        due.same("paid and", 55, r.paid(2, -4, 0));
        due.same("paid under", 26, r.paid(2, -4, 1));
        due.same("paid over", 0, r.paid(2, -4, 2));
        due.same("paid over", 6, r.paid(2, 3, 2));
        refusesCosts("path", cost -> k.path(cost, 100001, 0));
        due.is("steps", NO_SUCH, () -> k.path(0, 100001, 7));
        due.is("steps", NO_SUCH, () -> k.path(0, 0, -1));
        refusesXs("path", x -> k.path(0, x, 0));
        refusesCosts("paid", cost -> k.paid(cost, 100001, 0));
        due.is("step", NO_SUCH, () -> k.paid(0, 100001, 6));
        due.is("step", NO_SUCH, () -> k.paid(0, 0, -1));
        due.is("step", NO_SUCH, () -> k.paid(0, 0, MAX));
        refusesXs("paid", x -> k.paid(0, x, 0));
    }

    private static void off() {
        SlopeKeeper k = with("over 5 2;under 0 3;", "kink 7 1;", "rise;", "under 2 4;");
        due.same("off", 0, k.off(0, 2, 0));
        due.same("off", -1, k.off(0, 3, 0));
        due.same("off", 5, k.off(0, 1, 1));
        due.same("off", 6, k.off(0, 2, 1));
        due.same("the most", -333333, k.off(0, 1000000, 0));
        due.same("the most", 500005, k.off(0, 1000000, 1));
        due.same("the farthest", -999993, k.off(1, 1000000, 0));
        due.same("the farthest", 1000007, k.off(1, 1000000, 1));
        due.same("none", NOWHERE, k.off(2, 0, 0));
        due.same("none", NOWHERE, k.off(2, 0, 1));
        due.same("none above", NOWHERE, k.off(3, 0, 1));
        due.same("one below", 2, k.off(3, 3, 0));
        refusesCosts("off", cost -> k.off(cost, -1, 0));
        due.is("what", NO_SUCH, () -> k.off(0, -1, 2));
        due.is("what", NO_SUCH, () -> k.off(0, 0, -1));
        for (int much : new int[] {-1, 1000001, MIN, MAX}) {
            due.is("off by " + much, ILLEGAL, () -> k.off(0, much, 0));
        }
    }

    private static void split() {
        SlopeKeeper k = with("kink 3 2;", "kink 10 5;", "over 0 1;");
        due.same("split", 0, k.split(0, 1, 13));
        due.same("where", 3, k.where(0, 1, 13));
        due.same("the lighter one bears it", 14, k.split(0, 1, 20));
        due.same("where", 10, k.where(0, 1, 20));
        due.same("where, of the other one", 10, k.where(1, 0, 20));
        due.same("one and itself", 8, k.split(0, 0, 10));
        due.same("where, nearest to 0", 3, k.where(0, 0, 10));
        due.same("where, below", 1, k.where(0, 0, 4));
        due.same("free below", 0, k.split(2, 3, -50));
        due.same("where, any", 0, k.where(2, 3, -50));
        due.same("one without a slope", 0, k.split(1, 3, 7));
        due.same("where", 10, k.where(1, 3, 7));
        due.same("far away", 199974, k.split(0, 1, 100000));
        refusesCosts("split", cost -> k.split(cost, 0, 100001));
        refusesCosts("split", cost -> k.split(0, cost, 100001));
        refusesXs("split", x -> k.split(0, 1, x));
        refusesCosts("where", cost -> k.where(cost, 0, 100001));
        refusesCosts("where", cost -> k.where(0, cost, 100001));
        refusesXs("where", x -> k.where(0, 1, x));
    }

    private static void shared() {
        SlopeKeeper k = with("kink 3 2;", "kink 10 5;", "kink -1 3;plus 4;", "kink 6 4;plus 1;");
        due.same("one", 14, k.shared(1, 10));
        due.same("all where each is least", 5, k.shared(15, 18));
        due.same("all, the lightest bears it", 25, k.shared(15, 28));
        due.same("without the lightest", 4 + 1 + 30, k.shared(14, 25));
        due.same("two", k.split(1, 3, 40), k.shared(10, 40));
        for (int set : new int[] {0, 16, -1, MIN, MAX}) {
            due.is("set " + set, ILLEGAL, () -> k.shared(set, 0));
        }
        refusesXs("shared", x -> k.shared(15, x));
    }

    private static void stretch() {
        SlopeKeeper k = with("kink 0 5;move 3 3;drift -10;move 2 2;plus 1;", "kink 5 1;rise;drift 5;drift -5;");
        due.same("all by drift", 10, k.stretch(0, -10));
        due.same("two moves up", 15, k.stretch(0, 0));
        due.same("two moves down", 15, k.stretch(0, -40));
        due.same("one move in part", 13, k.stretch(0, -7));
        due.same("back and forth, and rise", 14, k.stretch(1, 9));
        due.same("nothing", 0, k.stretch(3, 9));
        refusesCosts("stretch", cost -> k.stretch(cost, 100001));
        refusesXs("stretch", x -> k.stretch(0, x));
    }

    private static void leads() {
        SlopeKeeper k = with("kink 0 1;", "plus 10;", "kink 500 1;");
        due.same("leads", 19, k.leads(0, 1, 0));
        due.same("first", -9, k.leads(0, 1, 1));
        due.same("the other way", 980, k.leads(1, 0, 0));
        due.same("first", -500, k.leads(1, 0, 1));
        due.same("the last places", 10, k.leads(2, 1, 0));
        due.same("first", 491, k.leads(2, 1, 1));
        due.same("itself", 0, k.leads(0, 0, 0));
        due.same("none", NOWHERE, k.leads(0, 0, 1));
        refusesCosts("leads", cost -> k.leads(cost, 0, 0));
        refusesCosts("leads", cost -> k.leads(0, cost, 0));
        due.is("what", NO_SUCH, () -> k.leads(0, 0, 2));
        due.is("what", NO_SUCH, () -> k.leads(0, 0, -1));
    }

    private static void against() {
        SlopeKeeper k = with("kink 4 3;plus 5;", "over -8 99;over 2 99;over 3 1;over 4 1;");
        due.same("flat", -5, k.against(0, 0, 0));
        due.same("where", 4, k.against(0, 0, 1));
        due.same("the steepest", 3 * 4 - 5, k.against(0, 3, 0));
        due.same("where", 4, k.against(0, 3, 1));
        due.same("the steepest below", -12 - 5, k.against(0, -3, 0));
        due.same("where, nearest to 0", 0, k.against(0, -3, 1));
        due.same("no bound", NOWHERE, k.against(0, 4, 0));
        due.same("no bound", NOWHERE, k.against(0, -4, 1));
        due.same("no bound below", NOWHERE, k.against(1, -1, 0));
        due.same("at the kink", -8, k.against(1, 0, 1));
        due.same("along a slope", 0, k.against(1, 99, 1));
        due.same("200", 800 - 12 * 99 - 2 * 99 - 1, k.against(1, 200, 0));
        due.same("where", 4, k.against(1, 200, 1));
        refusesCosts("against", cost -> k.against(cost, 201, 0));
        due.is("what", NO_SUCH, () -> k.against(0, 201, 2));
        due.is("what", NO_SUCH, () -> k.against(0, 0, -1));
        for (int slope : new int[] {-201, 201, MIN, MAX}) {
            due.is("against " + slope, ILLEGAL, () -> k.against(0, slope, 0));
        }
        due.same("-200", NOWHERE, k.against(0, -200, 0));
    }

    private static void meet() {
        SlopeKeeper k = with("kink 0 1;", "plus 10;", "plus 999;plus 1;", "plus 999;plus 2;");
        due.same("two like ones: below 0", -10, k.meet(0, 1));
        due.same("itself", 0, k.meet(0, 0));
        due.same("the farthest", -1000, k.meet(0, 2));
        k.does(0, 2, 0, 5);
        due.same("the farthest above", 1000, k.meet(0, 2));
        k.undo();
        due.same("farther", NOWHERE, k.meet(0, 3));
        due.same("never", NOWHERE, k.meet(2, 3));
        k.does(0, 3, 2, 0);
        due.same("the nearer one", -8, k.meet(1, 0));
        k.does(0, 3, -4, 0);
        due.same("the nearer one", 8, k.meet(1, 0));
        refusesCosts("meet", cost -> k.meet(cost, 0));
        refusesCosts("meet", cost -> k.meet(0, cost));
    }

    private static void heaviest() {
        SlopeKeeper k = with("kink 0 5;kink 10 3;rise;plus 2;kink 10 9;");
        due.same("least", 32, k.least(0));
        due.same("as it is", 3, k.heaviest(0, 1, 41));
        due.same("no more than", 2, k.heaviest(0, 1, 31));
        due.same("from so much on any", 40, k.heaviest(0, 1, 52));
        due.same("weight 0", 0, k.heaviest(0, 1, 2));
        due.same("none", NONE, k.heaviest(0, 1, 1));
        due.same("nor for nothing", NONE, k.heaviest(0, 1, 0));
        SlopeKeeper u = with("kink 0 5;under 3 2;over -4 1;");
        due.same("of 'under', for nothing", 0, u.heaviest(0, 1, 4));
        due.same("of 'under'", 2, u.heaviest(0, 1, 10));
        due.same("of 'over'", 0, u.heaviest(0, 2, 6));
        due.same("of 'over'", 1, u.heaviest(0, 2, 10));
        due.same("most", 40, k.heaviest(0, 1, 100000000));
        refusesCosts("heaviest", cost -> k.heaviest(cost, 0, -1));
        due.is("no such step", NO_SUCH, () -> k.heaviest(0, 5, -1));
        due.is("no such step", NO_SUCH, () -> k.heaviest(0, -1, 0));
        due.is("of another kind", NO_SUCH, () -> k.heaviest(0, 2, -1));
        for (int much : new int[] {-1, 100000001, MIN, MAX}) {
            due.is("much " + much, ILLEGAL, () -> k.heaviest(0, 0, much));
        }
    }

    private static void spared() {
        SlopeKeeper k = with("kink 0 5;move 1 1;kink 10 3;plus 27;", "kink 0 2;drift 500;drift -500;");
        due.same("least", 54, k.least(0));
        due.same("kink", 27, k.spared(0, 0));
        due.same("move spares nothing but costs", -3, k.spared(0, 1));
        due.same("kink", 27, k.spared(0, 2));
        due.same("plus", 27, k.spared(0, 3));
        due.same("of like ones the first", 0, k.dearest(0));
        due.same("none", NONE, k.dearest(2));
        refusesCosts("spared", cost -> k.spared(cost, 0));
        refusesCosts("dearest", cost -> k.dearest(cost));
        due.is("no such step", NO_SUCH, () -> k.spared(0, 4));
        due.is("no such step", NO_SUCH, () -> k.spared(0, -1));
        StringBuilder far = new StringBuilder("kink 500 2;");
        for (int i = 0; i < 6; i++) {
            far.append("drift 500;");
        }
        far.append("rise;drift -500;");
        for (int i = 0; i < 4; i++) {
            far.append("drift 500;");
        }
        due.same("text", 0, Due.text(k, 2, far.toString()));
        due.same("too much without it", -1000000000, k.spared(2, 8));
        due.same("not too much without it", 0, k.spared(2, 9));
        due.same("dearest", 0, k.dearest(2));
        due.same("only one that would be too much", 0, Due.text(k, 3, "fall;"));
        due.same("dearest", 0, k.dearest(3));
    }

    private static void gapAndAlike() {
        SlopeKeeper k = with("kink 0 1;", "plus 10;", "over 0 1;under 0 1;", "under 400 3;");
        due.same("gap", 490, k.gap(0, 1));
        due.same("gap", 490, k.gap(1, 0));
        due.same("gap of none", 0, k.gap(0, 2));
        due.same("gap at the left end", 2200, k.gap(0, 3));
        due.same("alike by other steps", 1, k.alike(0, 2));
        due.same("not alike", 0, k.alike(0, 1));
        due.same("gap at the right end", 7, with("over 499 7;").gap(0, 1));
        k.does(2, 7, 1, 0);
        due.same("not by so much", 0, k.alike(0, 2));
        due.same("gap", 1, k.gap(0, 2));
        k.undo();
        k.does(2, 1, 500, 1);
        due.same("the same up to 500", 0, k.gap(0, 2));
        due.same("not alike", 0, k.alike(0, 2));
        refusesCosts("gap", cost -> k.gap(cost, 0));
        refusesCosts("gap", cost -> k.gap(0, cost));
        refusesCosts("alike", cost -> k.alike(cost, 0));
        refusesCosts("alike", cost -> k.alike(0, cost));
    }

    private static void told() {
        String text = "kink -5 3;over 0 0;under 500 99;drift -9;move 0 2;rise;fall;plus 100;and 3;";
        SlopeKeeper k = with(text);
        due.same("told", 1, text.equals(Due.told(k, 0)) ? 1 : 0);
        due.same("length", text.length(), k.told(0, NONE));
        refusesCosts("told", cost -> k.told(cost, NONE));
        due.is("behind the last", NO_SUCH, () -> k.told(0, text.length()));
        due.is("below NONE", NO_SUCH, () -> k.told(0, -2));
        due.is("far below", NO_SUCH, () -> k.told(0, MIN));
        due.is("of an empty one", NO_SUCH, () -> k.told(1, 0));
    }

    private static void does() {
        SlopeKeeper k = new SlopeKeeper();
        int[][] wrong = {
            {4, 5, 0, 0}, {-1, 5, 0, 0}, {0, 9, 0, 0}, {0, -1, 0, 0}, {0, 0, 501, 0}, {0, 0, -501, 0}, {0, 0, 0, 100}, {0, 0, 0, -1},
            {0, 1, 501, 0}, {0, 1, 0, 100}, {0, 1, -501, 0}, {0, 2, 501, 0}, {0, 2, -501, 0}, {0, 2, 0, -1}, {0, 3, 501, 0}, {0, 3, -501, 0}, {0, 4, 100, 0},
            {0, 4, -1, 0}, {0, 4, 0, 100}, {0, 4, 0, -1}, {0, 7, 1000, 0}, {0, 7, -1, 0}, {0, 8, 4, 0}, {0, 8, -1, 0}, {0, 8, 0, 0},
            {0, MIN, 0, 0}, {MAX, 0, 0, 0}, {0, 0, MIN, 0}, {0, 0, 0, MAX}, {2, 8, 2, 0},
        };
        for (int i = 0; i < wrong.length; i++) {
            int[] w = wrong[i];
            due.same("does " + java.util.Arrays.toString(w), NONE, k.does(w[0], w[1], w[2], w[3]));
            due.same("status", i + 1, k.count(8));
        }
        due.same("no act", 0, k.count(4));
        int[][] right = {{0, 500, 99}, {1, -500, 0}, {2, 0, 99}, {3, 500, 777}, {3, -500, -777}, {4, 99, 99}, {4, 0, 0}, {5, MIN, MAX}, {6, MAX, MIN}, {7, 999, MIN}, {7, 0, MAX}, {8, 3, MIN}};
        for (int i = 0; i < right.length; i++) {
            due.same("does", i + 1, k.does(0, right[i][0], right[i][1], right[i][2]));
        }
        due.same("the second number isn't kept", 0, k.step(0, 3, 2));
        due.same("nor the first", 0, k.step(0, 7, 1));
        due.same("acts", 12, k.count(4));
        for (int i = 13; i <= 40; i++) {
            due.same("does", i, k.does(0, 7, 0, 0));
        }
        due.same("there are 40", NONE, k.does(0, 7, 0, 0));
        due.same("acts", 40, k.count(4));
    }

    private static void puts() {
        SlopeKeeper k = with("kink 0 1;rise;");
        due.same("ahead of all", 3, k.puts(0, 0, 7, 5, 9));
        due.same("among them", 4, k.puts(0, 2, 3, 6, 9));
        due.same("behind all", 5, k.puts(0, 4, 4, 1, 2));
        due.same("told", 1, "plus 5;kink 0 1;drift 6;rise;move 1 2;".equals(Due.told(k, 0)) ? 1 : 0);
        due.same("at", 5, k.at(0, 20));
        due.same("at", 6, k.at(0, 4));
        due.same("acts", 4, k.count(4));
        int[][] wrong = {{0, -1, 5, 0, 0}, {0, 6, 5, 0, 0}, {0, MIN, 5, 0, 0}, {0, MAX, 5, 0, 0}, {4, 0, 5, 0, 0}, {0, 0, 9, 0, 0}, {0, 0, 0, 501, 0}, {0, 0, 8, 0, 0}};
        for (int i = 0; i < wrong.length; i++) {
            int[] w = wrong[i];
            due.same("puts", NONE, k.puts(w[0], w[1], w[2], w[3], w[4]));
            due.same("status", i + 1, k.count(8));
        }
        for (int i = 6; i <= 40; i++) {
            due.same("puts", i, k.puts(0, 1, 7, 0, 0));
        }
        due.same("there are 40", NONE, k.puts(0, 1, 7, 0, 0));
        due.same("'and' is as it is when told", 1, k.does(1, 2, 3, 4));
        due.same("puts and", 1, k.puts(2, 0, 8, 1, 0));
        k.takes(1, 0);
        due.same("still on top", 12, k.at(2, 0));
    }

    private static void takes() {
        SlopeKeeper k = with("plus 1;plus 2;plus 4;");
        due.same("takes", 2, k.takes(0, 1));
        due.same("least", 5, k.least(0));
        due.same("takes the last", 1, k.takes(0, 1));
        due.same("least", 1, k.least(0));
        due.same("takes the first", 0, k.takes(0, 0));
        due.same("acts", 4, k.count(4));
        int[][] wrong = {{0, 0}, {-1, 0}, {4, 0}, {0, -1}, {MIN, MIN}, {MAX, MAX}};
        for (int i = 0; i < wrong.length; i++) {
            due.same("takes", NONE, k.takes(wrong[i][0], wrong[i][1]));
            due.same("status", i + 1, k.count(8));
        }
        due.same("undo", 3, k.undo());
        due.same("undo", 2, k.undo());
        due.same("undo", 1, k.undo());
        due.same("told", 1, "plus 1;plus 2;plus 4;".equals(Due.told(k, 0)) ? 1 : 0);
    }

    private static void copy() {
        SlopeKeeper k = with("plus 1;", "and 0;plus 2;", "rise;");
        due.same("copy", 2, k.copy(2, 1));
        due.same("acts", 4, k.count(4));
        due.same("least", 3, k.least(2));
        k.does(0, 7, 50, 0);
        due.same("what was on top stays", 3, k.least(2));
        due.same("'and' of it among those", NONE, k.copy(0, 1));
        due.same("'and' of it among those", NONE, k.copy(0, 2));
        due.same("one", NONE, k.copy(1, 1));
        due.same("no such", NONE, k.copy(4, 1));
        due.same("no such", NONE, k.copy(1, 4));
        due.same("no such", NONE, k.copy(-1, 0));
        due.same("no such", NONE, k.copy(0, -1));
        due.same("status", 7, k.count(8));
        k.takes(1, 1);
        due.same("a copy is by itself", 3, k.least(2));
        due.same("a copy may have 'and' of it", 2, k.copy(3, 2));
        due.same("then not", NONE, k.copy(0, 3));
        k.takes(3, 0);
        due.same("then again", 1, k.copy(0, 3));
    }

    private static void undo() {
        SlopeKeeper k = new SlopeKeeper();
        due.same("none", NONE, k.undo());
        due.same("not refused", 0, k.count(8));
        for (int i = 1; i <= 40; i++) {
            k.does(i % 4, 7, i, 0);
        }
        for (int i = 0; i < 5; i++) {
            k.takes(0, 0);
        }
        due.same("at most 40", 40, k.count(4));
        due.same("steps", 5, k.count(0));
        for (int i = 39; i >= 0; i--) {
            due.same("undo", i, k.undo());
        }
        due.same("none is left", NONE, k.undo());
        due.same("the first five stay", 1, k.count(0));
        due.same("the first five stay", 2, k.count(1));
        due.same("the first five stay", 6, k.least(1));
        Due.text(k, 1, "and 0;rise;");
        k.copy(2, 1);
        k.puts(1, 0, 5, 0, 0);
        k.undo();
        due.same("told", 1, "and 0;rise;".equals(Due.told(k, 1)) ? 1 : 0);
        k.undo();
        due.same("copy undone", 1, "plus 2;".equals(Due.told(k, 2)) ? 1 : 0);
        k.undo();
        due.same("text undone", 2, k.count(1));
    }

    private static void notes() {
        SlopeKeeper k = with("kink 0 5;move 1 1;under 10 3;plus 4;", "kink 0 1;");
        due.same("without any noted all fit", 41, k.fits(0, 0));
        due.same("the least", 0, k.fits(0, 1));
        due.same("look", -20, k.look(0, 0));
        due.same("unlike", 41, k.look(0, 1));
        due.same("look at the other", -20, k.look(2, 0));
        due.same("note", 1, k.note(11, 54));
        due.same("one fits", 1, k.fits(0, 0));
        due.same("it", 5, k.fits(0, 1));
        due.same("of like ones the least", -20, k.look(0, 0));
        due.same("one unlike", 1, k.look(0, 1));
        due.same("it tells nothing of the other", 41, k.fits(2, 0));
        due.same("note", 2, k.note(9, 47));
        due.same("of the other", 1, k.fits(2, 0));
        due.same("of the other", 3, k.fits(2, 1));
        due.same("note", 3, k.note(-100000, 0));
        due.same("none fits", 0, k.fits(2, 0));
        due.same("none", NONE, k.fits(2, 1));
        due.same("nowhere", NOWHERE, k.look(2, 0));
        due.same("none unlike", 0, k.look(2, 1));
        for (int i = 4; i <= 8; i++) {
            due.same("note", i, k.note(100000, Long.MAX_VALUE));
        }
        due.same("there are 8", NONE, k.note(0, 0));
        due.same("status", 1, k.count(9));
        k.forget();
        due.same("forgotten", 0, k.count(5));
        due.same("no act", 2, k.count(4));
        due.same("x", NONE, k.note(-100001, 0));
        due.same("x", NONE, k.note(MIN, 0));
        due.same("x", NONE, k.note(MAX, 0));
        due.same("status", 4, k.count(9));
        due.same("none noted", 0, k.count(5));
        for (int step : new int[] {-1, 1, 3, 4, MIN, MAX}) {
            due.is("fits " + step, NO_SUCH, () -> k.fits(step, 0));
            due.is("look " + step, NO_SUCH, () -> k.look(step, 0));
        }
        for (int what : new int[] {-1, 2, MIN, MAX}) {
            due.is("fits what " + what, NO_SUCH, () -> k.fits(0, what));
            due.is("look what " + what, NO_SUCH, () -> k.look(0, what));
        }
        SlopeKeeper later = with("plus 30;rise;", "rise;");
        due.same("a step for each", 0, Due.text(later, 0, "under 5 2;fall;over 3 1;"));
        due.same("look at the first", 1, later.look(0, 1));
        due.same("look at the last", 41, later.look(2, 1));
        due.same("look at the last", 4, later.look(2, 0));
        due.same("look at the first again", 1, later.look(0, 1));
        SlopeKeeper full = with("", "under 3 99;".repeat(40));
        due.same("weights of 4980", 0, Due.text(full, 0, "and 1;" + "under 3 99;".repeat(10) + "over 3 7;over 4 23;rise;"));
        due.same("none that is too much", 28, full.fits(11, 0));
        due.same("none is", 41, full.fits(12, 0));
        due.same("all alike behind the rise", 1, full.look(11, 1));
        full.takes(0, 13);
        due.same("none that is too much is looked at", 28, full.look(11, 1));
        due.same("from the kink on", 4, full.look(11, 0));
        due.same("heaviest", 27, full.heaviest(0, 11, 0));
        due.same("heaviest", 40, full.heaviest(0, 12, 0));
        due.same("weights of 4977", 0, Due.text(full, 0, "and 1;" + "under 3 99;".repeat(10) + "under 3 20;over 3 7;"));
        due.same("too much by the step itself", 31, full.fits(12, 0));
        due.same("too much by the step itself", 30, full.heaviest(0, 12, 0));
        SlopeKeeper flat = with("under 10 3;fall;");
        due.same("all fit", 41, flat.fits(0, 0));
        due.same("nothing is unlike by them", 1, flat.look(0, 1));
        due.same("the least x", -20, flat.look(0, 0));
        SlopeKeeper right = with("over 19 3;");
        due.same("the only x", 20, right.look(0, 0));
    }

    private static void years() {
        SlopeKeeper k = with("kink 3 2;");
        due.same("no year", 0, k.years(1, 0, 0));
        due.same("no year", 1, k.years(1, 0, 1));
        due.same("no year", 6, k.years(1, 0, 2));
        due.is("what", NO_SUCH, () -> k.years(1, 21, 3));
        due.is("what", NO_SUCH, () -> k.years(1, 0, -1));
        due.is("n", ILLEGAL, () -> k.years(1, 21, 0));
        due.is("n", ILLEGAL, () -> k.years(1, -1, 0));
        due.is("n", ILLEGAL, () -> k.years(1, MAX, 0));
        int[][] then = {{0, 1, 6}, {0, 1, 6}, {0, 1, 6}, {11, 2, 14}, {41, 3, 311}, {41, 3, 331}, {41, 4, 281}};
        for (int n = 0; n < then.length; n++) {
            for (int what = 0; what < 3; what++) {
                due.same("years 1 " + n + " " + what, then[n][what], k.years(1, n, what));
            }
        }
        k.years(12345, 20, 0);
        due.same("nothing changes", 1, k.count(0));
        due.same("nothing changes", 6, k.at(0, 0));
        due.same("40 steps", 0, Due.text(k, 0, "plus 1;".repeat(40)));
        due.same("steps may be more", 48, k.years(1, 3, 2));
        SlopeKeeper full = with("", "under 3 99;".repeat(40));
        due.same("weights of 4999", 0, Due.text(full, 0, "and 1;" + "under 3 99;".repeat(10) + "under 3 49;"));
        due.same("over -8 1", 11, full.years(1, 3, 0));
        due.same("under 33 9 is left out", 2, full.years(1, 4, 1));
        due.same("under 33 9 is left out, the drift is not", 5 * 4999 + 6, full.years(1, 5, 2));
        full.does(0, 2, 3, 1);
        due.same("over -8 1 is left out", 1, full.years(1, 3, 1));
        SlopeKeeper edge = with("kink 500 1;" + "drift 500;".repeat(9));
        due.same("ahead of the drift", 5305, edge.years(1, 4, 2));
        due.same("the drift is left out", 5305, edge.years(1, 5, 2));
        due.same("behind it", 5260, edge.years(1, 6, 2));
    }

    private static void image() {
        SlopeKeeper k = with("kink 3 2;");
        k.note(1, 4);
        k.does(9, 0, 0, 0);
        Due.text(k, 0, "x");
        k.note(MAX, 0);
        k.image();
        k.does(0, 7, 5, 0);
        k.does(1, 7, 6, 0);
        k.forget();
        k.does(9, 0, 0, 0);
        Due.text(k, 0, "rise;fall; x");
        k.note(MAX, 0);
        Due.feed(k, "rise;");
        for (int round = 0; round < 2; round++) {
            due.same("restore", 1, k.restore() ? 1 : 0);
            int[] counts = {1, 0, 0, 0, 1, 1, 20, 1, 1, 1};
            for (int what = 0; what < counts.length; what++) {
                due.same("count " + what, counts[what], k.count(what));
            }
            due.same("the fault's place is not of the image", 11, k.fault());
            due.same("noted", 1, k.fits(0, 0));
            due.same("undo", 0, k.undo());
            due.same("nothing", 0, k.count(0));
            k.forget();
            k.does(9, 0, 0, 0);
        }
        restoresActsAndNotes();
        k.does(3, 7, 8, 0);
        k.image();
        k.undo();
        k.restore();
        due.same("in place of another one", 8, k.least(3));
        due.same("in place of another one", 0, k.count(0));
    }

    private static void restoresActsAndNotes() {
        SlopeKeeper k = with("kink 0 5;", "plus 3;");
        k.note(4, 20);
        k.note(5, 25);
        k.image();
        k.undo();
        k.undo();
        k.does(3, 7, 8, 0);
        k.does(2, 7, 8, 0);
        k.forget();
        k.note(4, 12);
        k.note(7, 21);
        due.same("restore", 1, k.restore() ? 1 : 0);
        due.same("noted as it was", 5, k.fits(0, 1));
        due.same("undo", 1, k.undo());
        due.same("of cost 1", 0, k.count(1));
        due.same("undo", 0, k.undo());
        due.same("of cost 0", 0, k.count(0));
    }

    private static void tooMuch() {
        SlopeKeeper k = new SlopeKeeper();
        due.same("weights of 4950", 0, Due.text(k, 0, "kink 0 99;".repeat(25)));
        due.same("5000", 26, k.does(0, 0, 9, 25));
        due.same("weights", 5000, k.flat(0, 4));
        due.same("5001", NONE, k.does(0, 1, 0, 1));
        due.same("of no weight", 27, k.does(0, 1, 0, 0));
        due.same("on another one", 1, k.does(1, 8, 0, 0));
        due.same("twice", NONE, k.does(1, 8, 0, 0));
        due.same("taken it is less", 26, k.takes(0, 25));
        due.same("puts 51", NONE, k.puts(0, 0, 2, 0, 51));
        due.same("puts 50", 27, k.puts(0, 0, 2, 0, 50));
        due.same("the heaviest that is not", 37, k.does(2, 8, 0, 0) + 36);
        SlopeKeeper least = new SlopeKeeper();
        due.same("text", 0, Due.text(least, 0, "plus 999;".repeat(40)));
        due.same("text", 0, Due.text(least, 1, "and 0;".repeat(40)));
        due.same("least", 1598400, least.least(1));
        due.same("text", 0, Due.text(least, 2, "and 1;".repeat(40)));
        due.same("least", 63936000, least.least(2));
        due.same("text", 4, Due.text(least, 3, "rise; and 2; and 2; rise;"));
        due.same("fault", 13, least.fault());
        due.same("text", 0, Due.text(least, 3, "and 2;" + "and 1;".repeat(22)));
        due.same("text", 0, Due.text(least, 0, "plus 999;".repeat(36) + "plus 4;"));
        due.same("text", 0, Due.text(least, 1, "and 0;".repeat(25)));
        due.same("the most there may be", 24, least.does(3, 8, 1, 0));
        due.same("least", 100000000, least.least(3));
        due.same("one more", NONE, least.does(3, 7, 1, 0));
        due.same("a kink in it is none", 25, least.does(3, 1, 5, 9));
        due.same("the heaviest one below it", 100000000, least.least(3));
        due.same("status", 1, least.count(7));
    }
}
