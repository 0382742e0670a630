import java.util.ArrayList;
import java.util.List;
import java.util.function.Consumer;
import java.util.function.Supplier;

/** What the tests of single sentences share. */
abstract class Edges {
    static final int NONE = SlopeKeeper.NONE;
    static final int NOWHERE = SlopeKeeper.NOWHERE;
    static final int MIN = Integer.MIN_VALUE;
    static final int MAX = Integer.MAX_VALUE;
    static final int KINK = 0;
    static final int OVER = 1;
    static final int UNDER = 2;
    static final int DRIFT = 3;
    static final int MOVE = 4;
    static final int RISE = 5;
    static final int FALL = 6;
    static final int PLUS = 7;
    static final int AND = 8;
    static final int[] NO_COSTS = {-1, 4, MIN, MAX};
    static final int[] NO_XS = {-100001, 100001, MIN, MAX};
    static final int[] FARTHEST_XS = {-100000, 100000};

    private final Book book;
    private final Due due;
    private String part = "";
    private String sentence = "";

    Edges(Book book, Due due) {
        this.book = book;
        this.due = due;
    }

    abstract void all();

    void part(String name) {
        part = name;
    }

    /** The sentence must stand in the part of the document, and its test must look at something. */
    void tells(String quote, Runnable test) {
        sentence = quote;
        book.quote(part, quote);
        int before = due.asked();
        try {
            test.run();
        } catch (RuntimeException e) {
            due.same(where() + " ended by " + e + " at " + e.getStackTrace()[0], 0, 1);
        }
        due.same(where() + " looks at nothing", 1, due.asked() > before ? 1 : 0);
    }

    private String where() {
        String line = StackWalker.getInstance().walk(frames -> frames
            .filter(frame -> !frame.getClassName().equals("Edges"))
            .findFirst().map(frame -> frame.getFileName() + ":" + frame.getLineNumber()).orElse(""));
        return line + ", " + part + ", \"" + sentence + "\":";
    }

    void is(long want, long got) {
        due.same(got == want ? "" : where(), want, got);
    }

    void is(String want, String got) {
        due.same(want.equals(got) ? "" : where() + " " + got + " is not " + want, 1, want.equals(got) ? 1 : 0);
    }

    void noSuch(Due.Call call) {
        is(Due.NO_SUCH, Due.answerOf(call));
    }

    void illegal(Due.Call call) {
        is(Due.ILLEGAL, Due.answerOf(call));
    }

    void noSuchCosts(Consumer<Integer> call) {
        for (int cost : NO_COSTS) {
            noSuch(() -> answered(call, cost));
        }
        for (int cost = 0; cost < 4; cost++) {
            int such = cost;
            is(0, Due.answerOf(() -> answered(call, such)));
        }
    }

    void illegalXs(Consumer<Integer> call) {
        for (int x : NO_XS) {
            illegal(() -> answered(call, x));
        }
        for (int x : FARTHEST_XS) {
            is(0, Due.answerOf(() -> answered(call, x)));
        }
    }

    private static long answered(Consumer<Integer> call, int number) {
        call.accept(number);
        return 0;
    }

    SlopeKeeper with(String... texts) {
        SlopeKeeper keeper = new SlopeKeeper();
        for (int cost = 0; cost < texts.length; cost++) {
            if (!texts[cost].isEmpty()) {
                is(0, Due.text(keeper, cost, texts[cost]));
            }
        }
        return keeper;
    }

    void reads(SlopeKeeper keeper, int cost, String text) {
        is(0, Due.text(keeper, cost, text));
    }

    /** Its cost 3 costs 100000000 everywhere, by five steps. */
    SlopeKeeper dearAsCanBe() {
        return with("plus 500;".repeat(40), "and 0;".repeat(25), "and 1;".repeat(40), "and 2;".repeat(5));
    }

    /** Its cost 0 has weights of 5000 together, all in one kink at 0, by 26 steps. */
    SlopeKeeper heavyAsCanBe() {
        return with("kink 0 99;".repeat(25) + "kink 0 25;");
    }

    /** Its cost 0 has its only kink at 5000, of weight 2, by ten steps. */
    SlopeKeeper farAsCanBe() {
        return with("kink 500 1;" + "drift 500;".repeat(9));
    }

    /** A bit of all that there can be: steps, acts, notes, refused calls, an image, a fault, bytes on the tape. */
    static SlopeKeeper mixed() {
        SlopeKeeper k = new SlopeKeeper();
        Due.text(k, 0, "kink 3 2;move 1 1;");
        k.does(1, UNDER, 4, 5);
        k.does(2, AND, 1, 0);
        k.note(5, 2);
        k.does(0, PLUS, 1000, 0);
        k.note(MAX, 0);
        k.image();
        k.copy(3, 2);
        k.takes(1, 0);
        k.puts(0, 0, OVER, 2, 3);
        k.note(6, 4);
        Due.text(k, 0, "rise x;");
        Due.feed(k, "plus 7;fall;");
        return k;
    }

    /** What can be seen of a keeper without any change. */
    private static void see(SlopeKeeper k, List<Long> seen) {
        for (int what = 0; what <= 9; what++) {
            seen.add((long) k.count(what));
        }
        seen.add((long) k.fault());
        for (int cost = 0; cost < 4; cost++) {
            seen.add((long) k.told(cost, NONE));
            seen.add(k.at(cost, -30));
            seen.add(k.at(cost, 3));
            seen.add(k.at(cost, 70));
            seen.add(k.least(cost));
        }
        if (k.count(0) > 0 && k.step(0, 0, 0) <= UNDER) {
            seen.add((long) k.fits(0, 0));
            seen.add((long) k.fits(0, 1));
        }
    }

    /** All there is to see, with what comes out by undo, restore and the tape; some 400 calls for the mixed one. */
    private static List<Long> seeAll(SlopeKeeper k) {
        List<Long> seen = new ArrayList<>();
        see(k, seen);
        undoAll(k, seen);
        seen.add(k.restore() ? 1L : 0L);
        see(k, seen);
        undoAll(k, seen);
        seen.add((long) k.text(3, k.count(6)));
        see(k, seen);
        return seen;
    }

    private static void undoAll(SlopeKeeper k, List<Long> seen) {
        for (int left = k.undo(); left != NONE; left = k.undo()) {
            see(k, seen);
        }
    }

    void changesNothing(Consumer<SlopeKeeper> call) {
        changesNothing(Edges::mixed, call);
    }

    void changesNothing(Supplier<SlopeKeeper> made, Consumer<SlopeKeeper> call) {
        SlopeKeeper called = made.get();
        Due.answerOf(() -> { call.accept(called); return 0; });
        is(seeAll(made.get()).toString(), seeAll(called).toString());
    }

    /** The refused call leaves all as it is, but that one more is refused. */
    void countsAlone(int status, Consumer<SlopeKeeper> call) {
        SlopeKeeper called = mixed();
        int before = called.count(7 + status);
        is(0, Due.answerOf(() -> { call.accept(called); return 0; }));
        is(before + 1, called.count(7 + status));
        SlopeKeeper other = mixed();
        refuseOne(other, status);
        is(seeAll(other).toString(), seeAll(called).toString());
    }

    /** One refused call of another kind, which leaves the tape and the fault's place to be compared. */
    private static void refuseOne(SlopeKeeper k, int status) {
        if (status == 1) {
            k.takes(-1, 0);
        } else {
            k.note(MAX, 0);
        }
    }
}
