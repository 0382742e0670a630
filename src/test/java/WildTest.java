import java.util.Random;

/** Calls with any numbers at all, in any state: each throws what is due and nothing else, and refuses what is due. */
public final class WildTest {
    private static final int[] NUMBERS = {
        Integer.MIN_VALUE, Integer.MIN_VALUE + 1, Integer.MAX_VALUE, Integer.MAX_VALUE - 1, -100000001, -1000001, -100001, -100000, -5001, -5000, -1001,
        -1000, -501, -500, -201, -200, -41, -21, -20, -3, -2, -1, 0, 1, 2, 3, 4, 5, 6, 7, 8, 9, 10, 15, 16, 20, 21, 39, 40, 41, 99, 100, 200, 201,
        500, 501, 599, 600, 601, 999, 1000, 1001, 5000, 5001, 32768, 65536, 100000, 100001, 1000000, 1000001, 100000000, 100000001,
    };
    private static final int[] FIRSTS = {2, 2, 2, 1, 2, 0, 0, 1, 1};
    private static final int[] LOWEST = {-500, -500, -500, -500, 0, 0, 0, 0, 0};
    private static final int[] HIGHEST = {500, 500, 500, 500, 99, 0, 0, 999, 3};
    private static final Due due = new Due();

    private final Random random;
    private final SlopeKeeper k = new SlopeKeeper();
    private final String name;

    public static void main(String[] args) {
        for (int run = 0; run < 3000 && !due.hasWrong(); run++) {
            WildTest test = new WildTest(run);
            for (int i = 0; i < 60; i++) {
                test.call();
            }
        }
        due.end();
    }

    private WildTest(int run) {
        random = new Random(31L * run + 7);
        name = "run " + run + ": ";
        for (int cost = 0; cost < 4; cost++) {
            Due.text(k, cost, someSteps(cost));
        }
    }

    private String someSteps(int cost) {
        StringBuilder text = new StringBuilder();
        int many = random.nextInt(8) == 0 ? 38 + random.nextInt(3) : random.nextInt(5);
        for (int i = 0; i < many; i++) {
            text.append(new String[] {"kink 3 9;", "over -7 4;", "under 2 5;", "move 1 2;", "rise;", "fall;", "plus 9;", "drift -3;",
                "and " + (cost + 1) % 4 + ";"}[random.nextInt(9)]);
        }
        return text.toString();
    }

    /** Mostly small ones, so that calls come through as well. */
    private int wild() {
        return random.nextBoolean() ? random.nextInt(4) : NUMBERS[random.nextInt(NUMBERS.length)];
    }

    private static boolean isCost(int cost) {
        return cost >= 0 && cost <= 3;
    }

    private static boolean isX(int x) {
        return x >= -100000 && x <= 100000;
    }

    private boolean isStep(int cost, int i) {
        return isCost(cost) && i >= 0 && i < k.count(cost);
    }

    private boolean isWeighted(int cost, int i) {
        return isStep(cost, i) && k.step(cost, i, 0) <= 2;
    }

    /** NO_SUCH, ILLEGAL or neither, in that order. */
    private void throwsAs(String call, boolean such, boolean legal, Due.Call made) {
        long want = !such ? Due.NO_SUCH : !legal ? Due.ILLEGAL : 0;
        long got = Due.answerOf(made);
        boolean threw = got == Due.NO_SUCH || got == Due.ILLEGAL || got == Due.OTHER;
        due.same(name + call, want, threw ? got : 0);
    }

    private void call() {
        int a = wild();
        int b = wild();
        int c = wild();
        if (random.nextInt(3) == 0) {
            change(a, b, c);
        } else {
            ask(random.nextInt(23), a, b, c);
        }
    }

    private void ask(int which, int a, int b, int c) {
        String with = " with " + a + ", " + b + ", " + c;
        switch (which) {
            case 0:
                throwsAs("count" + with, a >= 0 && a <= 9, true, () -> k.count(a));
                break;
            case 1:
                throwsAs("step" + with, isStep(a, b) && c >= 0 && c <= 2, true, () -> k.step(a, b, c));
                break;
            case 2:
                throwsAs("at" + with, isCost(a), isX(b), () -> k.at(a, b));
                break;
            case 3:
                throwsAs("least" + with, isCost(a), true, () -> k.least(a));
                break;
            case 4:
                throwsAs("flat" + with, isCost(a) && b >= 0 && b <= 4, true, () -> k.flat(a, b));
                break;
            case 5:
                throwsAs("kink" + with, isCost(a) && b >= 0 && b < k.flat(a, 3) && (c == 0 || c == 1), true, () -> k.kink(a, b, c));
                break;
            case 6:
                throwsAs("slope" + with, isCost(a) && (c == 0 || c == 1), isX(b), () -> k.slope(a, b, c));
                break;
            case 7:
                throwsAs("path" + with, isCost(a) && c >= 0 && c <= k.count(a), isX(b), () -> k.path(a, b, c));
                break;
            case 8:
                throwsAs("paid" + with, isStep(a, c), isX(b), () -> k.paid(a, b, c));
                break;
            case 9:
                throwsAs("off" + with, isCost(a) && (c == 0 || c == 1), b >= 0 && b <= 1000000, () -> k.off(a, b, c));
                break;
            case 10:
                throwsAs("split" + with, isCost(a) && isCost(b), isX(c), () -> k.split(a, b, c));
                break;
            default:
                askMore(which, with, a, b, c);
        }
    }

    private void askMore(int which, String with, int a, int b, int c) {
        switch (which) {
            case 11:
                throwsAs("where" + with, isCost(a) && isCost(b), isX(c), () -> k.where(a, b, c));
                break;
            case 12:
                throwsAs("shared" + with, true, a >= 1 && a <= 15 && isX(b), () -> k.shared(a, b));
                break;
            case 13:
                throwsAs("stretch" + with, isCost(a), isX(b), () -> k.stretch(a, b));
                break;
            case 14:
                throwsAs("leads" + with, isCost(a) && isCost(b) && (c == 0 || c == 1), true, () -> k.leads(a, b, c));
                break;
            case 15:
                throwsAs("against" + with, isCost(a) && (c == 0 || c == 1), b >= -200 && b <= 200, () -> k.against(a, b, c));
                break;
            case 16:
                throwsAs("meet, gap, alike" + with, isCost(a) && isCost(b), true, () -> k.meet(a, b));
                throwsAs("meet, gap, alike" + with, isCost(a) && isCost(b), true, () -> k.gap(a, b));
                throwsAs("meet, gap, alike" + with, isCost(a) && isCost(b), true, () -> k.alike(a, b));
                break;
            case 17:
                throwsAs("heaviest" + with, isWeighted(a, b), c >= 0 && c <= 100000000, () -> k.heaviest(a, b, c));
                break;
            case 18:
                throwsAs("spared" + with, isStep(a, b), true, () -> k.spared(a, b));
                break;
            case 19:
                throwsAs("dearest" + with, isCost(a), true, () -> k.dearest(a));
                break;
            case 20:
                throwsAs("told" + with, isCost(a) && (b == -1 || b >= 0 && b < k.told(a, -1)), true, () -> k.told(a, b));
                break;
            case 21:
                throwsAs("fits" + with, isWeighted(0, a) && (b == 0 || b == 1), true, () -> k.fits(a, b));
                throwsAs("look" + with, isWeighted(0, a) && (b == 0 || b == 1), true, () -> k.look(a, b));
                break;
            default:
                throwsAs("years" + with, c >= 0 && c <= 2, b >= 0 && b <= 20, () -> k.years(a, b, c));
        }
    }

    private void change(int a, int b, int c) {
        int d = wild();
        int e = wild();
        switch (random.nextInt(9)) {
            case 0:
                throwsAs("text with " + a + ", " + b, isCost(a), b >= 0 && b <= k.count(6), () -> k.text(a, b));
                break;
            case 1:
                int bytes = k.count(6);
                due.same(name + "feed", bytes > 580 ? -1 : bytes + 20, k.feed(a, b, c, d, e));
                break;
            case 2:
                acts("does", a, canBeTold(a, b, c, d), 1, () -> k.does(a, b, c, d));
                break;
            case 3:
                acts("puts", a, canBeTold(a, c, d, e) && b >= 0 && b <= k.count(a), 1, () -> k.puts(a, b, c, d, e));
                break;
            case 4:
                acts("takes", a, isStep(a, b), -1, () -> k.takes(a, b));
                break;
            case 5:
                boolean can = isCost(a) && isCost(b) && a != b;
                acts("copy", a, can, can ? k.count(b) - k.count(a) : 0, () -> k.copy(a, b));
                break;
            case 6:
                int notes = k.count(5);
                long noted = notes < 8 && isX(a) ? notes + 1 : -1;
                int refused = k.count(9);
                due.same(name + "note " + a, noted, k.note(a, (long) b * c));
                due.same(name + "refused notes", noted < 0 ? refused + 1 : refused, k.count(9));
                break;
            case 7:
                int acts = k.count(4);
                due.same(name + "undo", acts - 1, k.undo());
                break;
            default:
                imageOrForget();
        }
    }

    private void imageOrForget() {
        switch (random.nextInt(3)) {
            case 0:
                k.image();
                break;
            case 1:
                due.is(name + "restore", 0, () -> k.restore() ? 0 : 0);
                break;
            default:
                k.forget();
                due.same(name + "forgotten", 0, k.count(5));
        }
    }

    private boolean canBeTold(int cost, int kind, int a, int b) {
        if (!isCost(cost) || kind < 0 || kind > 8 || k.count(cost) >= 40 || (kind == 8 && a == cost)) {
            return false;
        }
        if (FIRSTS[kind] >= 1 && (a < LOWEST[kind] || a > HIGHEST[kind])) {
            return false;
        }
        return FIRSTS[kind] < 2 || (b >= 0 && b <= 99);
    }

    /** What can be told may still be too much, or on top of itself: then it is refused as well. */
    private void acts(String call, int cost, boolean can, int more, Due.Call made) {
        int refused = k.count(8);
        int acts = k.count(4);
        int steps = isCost(cost) ? k.count(cost) : 0;
        long answer = Due.answerOf(made);
        boolean done = answer != -1;
        due.same(name + call + " of " + cost, can && done ? steps + more : -1, answer);
        due.same(name + call + ", refused", done ? refused : refused + 1, k.count(8));
        due.same(name + call + ", acts", done ? Math.min(acts + 1, 40) : acts, k.count(4));
        due.same(name + call + ", steps", done ? steps + more : steps, isCost(cost) ? k.count(cost) : steps);
    }
}
