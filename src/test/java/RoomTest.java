import com.sun.management.ThreadMXBean;
import java.lang.management.ManagementFactory;
import java.util.ArrayList;
import java.util.Arrays;
import java.util.List;
import java.util.Random;

/** Costs with as many kinks as there may be: what 512 calls make is small against their room, and all answers are right. */
public final class RoomTest {
    private static final int CALLS = 512;
    /** All that a run may make: 7.3 million fields and elements, most of them of 4 bytes. */
    private static final long ROOM = 7300000L * 4;
    private static final long SMALL = ROOM / 140;
    /** For a run that does nothing but to bring as much that is new as it can on top of another. */
    private static final long STILL_SMALL = ROOM / 50;
    /** For a run in which no cost has many kinks. */
    private static final long TINY = ROOM / 1000;
    private static final String[] WORDS = {"kink", "over", "under", "drift", "move", "rise", "fall", "plus", "and"};
    private static final int[] NUMBERS = {2, 2, 2, 1, 2, 0, 0, 1, 1};

    private static final int FEED = 0;
    private static final int TEXT = 1;
    private static final int DOES = 2;
    private static final int PUTS = 3;
    private static final int TAKES = 4;
    private static final int COPY = 5;
    private static final int UNDO = 6;
    private static final int IMAGE = 7;
    private static final int RESTORE = 8;
    private static final int COUNT = 9;
    private static final int FLAT = 10;
    private static final int LEAST = 11;
    private static final int AT = 12;
    private static final int KINK = 13;
    private static final int PATH = 14;
    private static final int PAID = 15;
    private static final int STRETCH = 16;
    private static final int STEP = 17;
    private static final int TOLD = 18;
    private static final int LEADS = 19;
    private static final int MEET = 20;
    private static final int GAP = 21;
    private static final int ALIKE = 22;
    private static final int SPLIT = 23;
    private static final int SHARED = 24;
    private static final int LOOK = 25;
    private static final int FITS = 26;
    private static final int YEARS = 27;
    private static final int SPARED = 28;
    private static final int HEAVIEST = 29;
    private static final int OFF = 30;
    private static final int DEAREST = 31;

    private static final ThreadMXBean THREADS = (ThreadMXBean) ManagementFactory.getThreadMXBean();
    private static final Due due = new Due();

    private final String name;
    private final Random random;
    private final Mirror mirror = new Mirror(5700);
    private final List<int[]> calls = new ArrayList<>();
    private final List<Long> answers = new ArrayList<>();

    public static void main(String[] args) {
        grow();
        fullest();
        nearlyAlike();
        newObjects();
        RoomTest told = new RoomTest("told and taken", 0);
        told.fill();
        told.tellAndTake();
        told.run(SMALL);
        for (int seed = 1; seed <= 8 && !due.hasWrong(); seed++) {
            RoomTest mixed = new RoomTest("mixed " + seed, seed);
            mixed.fill();
            mixed.mix(seed % 2 == 0);
            mixed.run(SMALL);
        }
        for (int seed = 1; seed <= 3 && !due.hasWrong(); seed++) {
            RoomTest shapes = new RoomTest("another shape on top each time " + seed, seed);
            shapes.changeShapes();
            shapes.run(STILL_SMALL);
        }
        RoomTest heavy = new RoomTest("another one, too much on top each time", 0);
        heavy.refuse();
        heavy.run(STILL_SMALL);
        RoomTest same = new RoomTest("the same on top again and again", 0);
        same.fill();
        same.repeat();
        same.run(SMALL);
        asks();
        due.end();
    }

    private RoomTest(String name, int seed) {
        this.name = name;
        random = new Random(104729L * seed + 3);
    }

    /** A move parts the kink where the flat is: room for one more is due however many there are. */
    private static void grow() {
        SlopeKeeper keeper = new SlopeKeeper();
        for (int i = 1; i <= 120; i++) {
            if (keeper.count(0) == 39) {
                int other = 2 + i / 38 % 2;
                keeper.copy(other, 0);
                keeper.text(0, 0);
                keeper.does(0, 8, other, 0);
            }
            keeper.does(0, i == 1 ? 0 : 1, 3 * i - 400, 1);
            due.same("kinks", i, keeper.flat(0, 3));
            keeper.does(0, 4, 1, 0);
            due.same("one is parted", i + 1, keeper.flat(0, 3));
            due.same("weights", i + 1, keeper.flat(0, 4));
            keeper.undo();
        }
    }

    /** Nothing may be on top that takes more to keep: from -5000 to 5000, and all weights together 5000. */
    private static void fullest() {
        SlopeKeeper keeper = new SlopeKeeper();
        for (int cost = 1; cost <= 2; cost++) {
            for (int i = 0; i < 25; i++) {
                keeper.does(cost, cost, 0, 99);
            }
            keeper.does(cost, cost, 0, 25);
            for (int i = 0; i < 10; i++) {
                keeper.does(cost, 3, cost == 1 ? -500 : 500, 0);
            }
        }
        due.same("steps", 37, keeper.does(1, 8, 2, 0));
        due.same("weights", 5000, keeper.flat(1, 4));
        due.same("on top", 1, keeper.does(0, 8, 1, 0));
        due.same("alike", 1, keeper.alike(0, 1));
        due.same("first place", -5000, keeper.kink(0, 0, 0));
        due.same("first weight", 2500, keeper.kink(0, 0, 1));
        due.same("last place", 5000, keeper.kink(0, 1, 0));
        due.same("last weight", 2500, keeper.kink(0, 1, 1));
        due.same("at", 25000000, keeper.at(0, 0));
        due.same("paid", 2500L * 105000, keeper.paid(0, 100000, 0));
    }

    /** Costs of one weight at one place, or of like weights at other places: each on top is what it was. */
    private static void nearlyAlike() {
        String[] texts = {"over 5 3;", "under 5 3;", "kink 5 1;over 5 1;", "kink 5 1;under 5 1;", "over 6 3;", "over 5 3;plus 1;", "over 5 3;plus 2;", "rise;", "plus 1;", "plus 2;"};
        long[] atFour = {0, 3, 1, 2, 0, 1, 2, 0, 1, 2};
        long[] atSeven = {6, 0, 4, 2, 3, 7, 8, 0, 1, 2};
        SlopeKeeper keeper = new SlopeKeeper();
        for (int round = 0; round < 2; round++) {
            for (String text : texts) {
                due.same(text, 0, Due.text(keeper, 1, text));
                keeper.does(0, 8, 1, 0);
            }
        }
        for (int i = 0; i < 2 * texts.length; i++) {
            due.same("at 4: " + texts[i % texts.length], atFour[i % texts.length], keeper.paid(0, 4, i));
            due.same("at 7: " + texts[i % texts.length], atSeven[i % texts.length], keeper.paid(0, 7, i));
        }
    }

    private static long made() {
        return THREADS.getThreadAllocatedBytes(Thread.currentThread().getId());
    }

    private static void newObjects() {
        new SlopeKeeper();
        long before = made();
        for (int i = 0; i < 100; i++) {
            new SlopeKeeper();
        }
        long used = (made() - before) / 100;
        due.same("bytes of a new object: " + used + ", few enough", 1, used < ROOM / 5000 ? 1 : 0);
    }

    private int below(int n) {
        return random.nextInt(n);
    }

    private boolean isFull() {
        return calls.size() >= CALLS;
    }

    private void call(long answer, int... call) {
        if (!isFull()) {
            calls.add(call);
            answers.add(answer);
        }
    }

    private long does(int cost, int kind, int a, int b) {
        if (isFull()) {
            return 0;
        }
        long answer = mirror.does(cost, mirror.step(kind, a, b));
        call(answer, DOES, cost, kind, a, b);
        return answer;
    }

    private void puts(int cost, int i, int kind, int a, int b) {
        if (!isFull()) {
            call(mirror.puts(cost, i, mirror.step(kind, a, b)), PUTS, cost, i, kind, a, b);
        }
    }

    private void takes(int cost, int i) {
        if (!isFull()) {
            call(mirror.takes(cost, i), TAKES, cost, i);
        }
    }

    private void copy(int cost, int other) {
        if (!isFull()) {
            call(mirror.copy(cost, other), COPY, cost, other);
        }
    }

    private void undo() {
        if (!isFull()) {
            call(mirror.undo(), UNDO);
        }
    }

    private void image() {
        if (!isFull()) {
            mirror.image();
            call(0, IMAGE);
        }
    }

    private void restore() {
        if (!isFull()) {
            call(mirror.restore() ? 1 : 0, RESTORE);
        }
    }

    private static String told(List<Naive.Step> steps) {
        StringBuilder text = new StringBuilder();
        for (Naive.Step step : steps) {
            text.append(WORDS[step.kind()]);
            text.append(NUMBERS[step.kind()] > 0 ? " " + step.a() : "");
            text.append(NUMBERS[step.kind()] > 1 ? " " + step.b() : "");
            text.append(';');
        }
        return text.toString();
    }

    private void text(int cost, List<Naive.Step> steps) {
        String bytes = told(steps);
        int feeds = (bytes.length() + 19) / 20;
        if (calls.size() + feeds + 1 > CALLS) {
            return;
        }
        String filled = bytes + " ".repeat(20 * feeds - bytes.length());
        for (int i = 0; i < feeds; i++) {
            int[] call = new int[6];
            call[0] = FEED;
            for (int k = 0; k < 20; k++) {
                call[1 + k / 4] = call[1 + k / 4] << 8 | filled.charAt(20 * i + k);
            }
            call(20 * (i + 1), call);
        }
        call(mirror.text(cost, steps), TEXT, cost, bytes.length());
    }

    private void drift(int cost, int way) {
        for (int rest = way; rest > 0; rest -= 500) {
            does(cost, 3, -Math.min(rest, 500), 0);
        }
    }

    /** Cost 0 comes to 4791 kinks of weight 1, by 'and' of costs that are drifted apart. */
    private void fill() {
        does(0, 1, 0, 1);
        does(1, 1, 0, 1);
        int way = 1;
        int next = 2;
        for (int i = 0; i < 13; i++) {
            drift(i % 2, way);
            does(i % 2, 8, 1 - i % 2, 0);
            int sum = way + next;
            way = next;
            next = sum;
        }
        drift(1, 610);
        does(1, 8, 0, 0);
        copy(2, 0);
        drift(0, 987);
        does(0, 8, 1, 0);
        drift(1, 1597);
        does(1, 8, 0, 0);
        drift(0, 2584);
        does(0, 8, 1, 0);
        drift(0, 610);
        does(0, 8, 2, 0);
        due.same(name + ": calls", 50, calls.size());
        due.same(name + ": steps", 28, mirror.steps(0).size());
        due.same(name + ": kinks", 4791, mirror.row(0).kinks().size());
    }

    private void tellAndTake() {
        while (calls.size() < CALLS - 1) {
            for (int i = 0; i < 12 && calls.size() < CALLS - 1; i++) {
                does(0, 7, 0, 0);
            }
            for (int i = 39; i >= 28 && calls.size() < CALLS - 1; i--) {
                takes(0, i);
            }
        }
        call(4791, FLAT, 0, 3);
    }

    /** In the end all acts are undone: those of the run, or those that the image has kept. */
    private void mix(boolean restores) {
        image();
        while (calls.size() < CALLS - 110) {
            int before = mirror.row(0).kinks().size();
            change(below(4));
            if (before < 2000 && below(12) == 0) {
                restore();
            }
            if (below(3) == 0) {
                ask(below(4));
            }
        }
        if (restores) {
            restore();
        }
        while (!isFull()) {
            undo();
            ask(below(4));
        }
    }

    private Naive.Step step(int cost) {
        switch (below(8)) {
            case 0:
                return mirror.step(below(3), below(1001) - 500, below(4));
            case 1:
            case 2:
                return mirror.step(3, below(201) - 100, 0);
            case 3:
                return mirror.step(4, below(30), below(30));
            case 4:
                return below(6) == 0 ? mirror.step(5 + below(2), 0, 0) : mirror.step(7, below(100), 0);
            case 5:
                return mirror.step(7, below(1000), 0);
            default:
                return mirror.step(8, (cost + 1 + below(3)) % 4, 0);
        }
    }

    private void change(int cost) {
        int size = mirror.steps(cost).size();
        Naive.Step step = step(cost);
        switch (below(12)) {
            case 0:
            case 1:
            case 2:
                does(cost, step.kind(), step.a(), step.b());
                break;
            case 3:
            case 4:
                puts(cost, below(size + 1), step.kind(), step.a(), step.b());
                break;
            case 5:
            case 6:
                takes(cost, size == 0 ? 0 : below(size));
                break;
            case 7:
                copy(cost, below(4));
                break;
            case 8:
                for (int i = below(6); i >= 0; i--) {
                    undo();
                }
                break;
            case 9:
                if (below(3) == 0) {
                    image();
                } else if (below(2) == 0) {
                    restore();
                }
                break;
            default:
                text(cost, someSteps(cost));
        }
    }

    private List<Naive.Step> someSteps(int cost) {
        List<Naive.Step> steps = new ArrayList<>();
        if (below(3) > 0) {
            steps.add(mirror.step(8, (cost + 1 + below(3)) % 4, 0));
        }
        for (int i = below(4); i > 0; i--) {
            steps.add(step(cost));
        }
        return steps;
    }

    /** All that is on top has kinks from -5000 to 5000, and never comes twice. */
    private void changeShapes() {
        text(1, List.of(mirror.step(0, 0, 1)));
        drift(1, 5000);
        text(2, List.of(mirror.step(0, 500, 1)));
        for (int i = 0; i < 9; i++) {
            does(2, 3, 500, 0);
        }
        does(2, 8, 1, 0);
        text(1, List.of(mirror.step(8, 2, 0)));
        text(3, List.of(mirror.step(8, 2, 0)));
        while (!isFull()) {
            for (int cost = 1; cost <= 3; cost++) {
                int size = mirror.steps(cost).size();
                if (size < 40) {
                    does(cost, below(3), below(1001) - 500, 1 + below(60));
                } else {
                    takes(cost, 12 + below(28));
                }
            }
            text(0, List.of(mirror.step(8, 1, 0), mirror.step(8, 2, 0), mirror.step(8, 3, 0)));
            while (calls.size() > CALLS - 5 && !isFull()) {
                ask(0);
            }
        }
    }

    /** As wide and as heavy as may be, and refused all the same. */
    private void refuse() {
        for (int i = 0; i < 24; i++) {
            does(2, 1, 0, 99);
            does(3, 2, 500, 99);
        }
        drift(2, 5000);
        for (int i = 0; i < 9; i++) {
            does(3, 3, 500, 0);
        }
        does(1, 8, 2, 0);
        does(1, 8, 3, 0);
        for (int i = 0; i < 3; i++) {
            does(0, 0, 0, 99);
        }
        while (!isFull()) {
            if (mirror.steps(1).size() < 40) {
                does(1, 1, below(1001) - 500, 1 + below(5));
            } else {
                takes(1, 2 + below(38));
            }
            does(0, 8, 1, 0);
        }
        due.same(name + ": steps", 3, mirror.steps(0).size());
    }

    private void ask(int cost) {
        Naive.Row f = mirror.row(cost);
        List<int[]> kinks = f.kinks();
        List<Naive.Step> steps = mirror.steps(cost);
        int x = below(12001) - 6000;
        switch (below(9)) {
            case 0:
                call(kinks.size(), FLAT, cost, 3);
                break;
            case 1:
                call(f.least(), LEAST, cost);
                break;
            case 2:
                call(f.get(x), AT, cost, x);
                break;
            case 3:
                if (!kinks.isEmpty()) {
                    int i = below(kinks.size());
                    call(kinks.get(i)[0], KINK, cost, i, 0);
                    call(kinks.get(i)[1], KINK, cost, i, 1);
                }
                break;
            case 4:
                call(mirror.acts(), COUNT, 4);
                break;
            case 5:
                if (!steps.isEmpty()) {
                    int i = below(steps.size());
                    call(steps.get(i).kind(), STEP, cost, i, 0);
                    call(steps.get(i).a(), STEP, cost, i, 1);
                }
                break;
            case 6:
                String text = told(steps);
                call(text.length(), TOLD, cost, -1);
                if (!text.isEmpty()) {
                    int i = below(text.length());
                    call(text.charAt(i), TOLD, cost, i);
                }
                break;
            default:
                askPath(cost, x);
        }
    }

    private void askPath(int cost, int x) {
        List<Naive.Step> steps = mirror.steps(cost);
        int[] path = Naive.path(steps, mirror.rows(cost), x);
        int many = below(path.length);
        call(path[many], PATH, cost, x, many);
        int way = 0;
        for (int i = 0; i < steps.size(); i++) {
            way += Math.abs(path[i + 1] - path[i]);
        }
        call(way, STRETCH, cost, x);
        if (many < steps.size()) {
            call(Naive.costAt(steps.get(many), path[many + 1]), PAID, cost, x, many);
        }
    }

    /** Costs that differ by a drift or a plus alone, and costs that were there before. */
    private void repeat() {
        text(3, List.of(mirror.step(8, 2, 0)));
        image();
        while (!isFull()) {
            text(0, List.of(mirror.step(8, 1, 0), mirror.step(8, 2, 0), mirror.step(8, 3, 0)));
            if (below(3) > 0) {
                restore();
            }
            does(1 + below(2), 3 + 4 * below(2), below(20), 0);
            ask(0);
        }
    }

    private void run(long most) {
        int size = calls.size();
        int[][] made = calls.toArray(new int[0][]);
        long[] got = new long[size];
        long used = Math.max(measured(made, got), measured(made, got));
        due.same(name + ": calls", CALLS, size);
        for (int i = 0; i < size; i++) {
            due.same(name + ": call " + i + ", " + Arrays.toString(made[i]), answers.get(i), got[i]);
        }
        System.out.println(name + ": " + used + " bytes");
        due.same(name + ": bytes made: " + used + ", few enough", 1, used < most ? 1 : 0);
    }

    private static long measured(int[][] made, long[] got) {
        long before = made();
        SlopeKeeper keeper = new SlopeKeeper();
        for (int i = 0; i < made.length; i++) {
            got[i] = answer(keeper, made[i]);
        }
        return made() - before;
    }

    /** Each question, asked again and again of the greatest costs. */
    private static void asks() {
        int[][] questions = {
            {COUNT, 0}, {FLAT, 0, 2}, {LEAST, 0}, {AT, 0, 7}, {KINK, 0, 4, 1}, {PATH, 0, 9, 3}, {PAID, 0, 9, 12}, {STRETCH, 0, 9}, {STEP, 0, 3, 1},
            {TOLD, 0, 90}, {LEADS, 0, 1, 0}, {MEET, 0, 1}, {GAP, 0, 1}, {ALIKE, 0, 2}, {SPLIT, 0, 1, 50}, {SHARED, 15, 70}, {LOOK, 0, 0}, {FITS, 0, 0},
            {YEARS, 5, 20, 0}, {SPARED, 0, 9}, {HEAVIEST, 0, 0, 500}, {OFF, 0, 900, 1}, {DEAREST, 0},
        };
        RoomTest great = new RoomTest("questions", 0);
        great.fill();
        ask(great, questions, SMALL);
        RoomTest small = new RoomTest("questions of small costs", 0);
        for (int i = 0; i < 28; i++) {
            small.does(i % 2, i % 4, 7 * i % 20, 3);
        }
        ask(small, questions, TINY);
    }

    private static void ask(RoomTest filled, int[][] questions, long most) {
        for (int[] question : questions) {
            String name = filled.name + ": question " + question[0];
            int[][] made = new int[CALLS][];
            long[] got = new long[CALLS];
            for (int i = 0; i < CALLS; i++) {
                made[i] = i < filled.calls.size() ? filled.calls.get(i) : question;
            }
            long used = Math.max(measured(made, got), measured(made, got));
            due.same(name + ": bytes made: " + used + ", few enough", 1, used < most ? 1 : 0);
            due.same(name + ": the same again", got[60], got[CALLS - 1]);
        }
    }

    private static long answer(SlopeKeeper k, int[] c) {
        switch (c[0]) {
            case FEED:
                return k.feed(c[1], c[2], c[3], c[4], c[5]);
            case TEXT:
                return k.text(c[1], c[2]);
            case DOES:
                return k.does(c[1], c[2], c[3], c[4]);
            case PUTS:
                return k.puts(c[1], c[2], c[3], c[4], c[5]);
            case TAKES:
                return k.takes(c[1], c[2]);
            case COPY:
                return k.copy(c[1], c[2]);
            case UNDO:
                return k.undo();
            case IMAGE:
                k.image();
                return 0;
            case RESTORE:
                return k.restore() ? 1 : 0;
            case COUNT:
                return k.count(c[1]);
            case FLAT:
                return k.flat(c[1], c[2]);
            case LEAST:
                return k.least(c[1]);
            case AT:
                return k.at(c[1], c[2]);
            case KINK:
                return k.kink(c[1], c[2], c[3]);
            case PATH:
                return k.path(c[1], c[2], c[3]);
            case PAID:
                return k.paid(c[1], c[2], c[3]);
            case STRETCH:
                return k.stretch(c[1], c[2]);
            case STEP:
                return k.step(c[1], c[2], c[3]);
            case TOLD:
                return k.told(c[1], c[2]);
            default:
                return further(k, c);
        }
    }

    private static long further(SlopeKeeper k, int[] c) {
        switch (c[0]) {
            case LEADS:
                return k.leads(c[1], c[2], c[3]);
            case MEET:
                return k.meet(c[1], c[2]);
            case GAP:
                return k.gap(c[1], c[2]);
            case ALIKE:
                return k.alike(c[1], c[2]);
            case SPLIT:
                return k.split(c[1], c[2], c[3]);
            case SHARED:
                return k.shared(c[1], c[2]);
            case LOOK:
                return k.look(c[1], c[2]);
            case FITS:
                return k.fits(c[1], c[2]);
            case YEARS:
                return k.years(c[1], c[2], c[3]);
            case SPARED:
                return k.spared(c[1], c[2]);
            case HEAVIEST:
                return k.heaviest(c[1], c[2], c[3]);
            case OFF:
                return k.off(c[1], c[2], c[3]);
            default:
                return k.dearest(c[1]);
        }
    }
}
