import java.util.ArrayList;
import java.util.Arrays;
import java.util.List;
import java.util.Random;

/** Random runs of calls, each answer held against the document's words taken literally. */
public final class ReferenceTest {
    private static final String[] WORDS = {"kink", "over", "under", "drift", "move", "rise", "fall", "plus", "and"};
    private static final int[] NUMBERS = {2, 2, 2, 1, 2, 0, 0, 1, 1};

    private final Due due;
    private final Random random;
    private final boolean far;
    private final Mirror mirror;
    private final Naive naive;
    private final int reach;
    private final SlopeKeeper keeper = new SlopeKeeper();
    private final String name;

    public static void main(String[] args) {
        Due due = new Due();
        for (int run = 0; run < 120 && !due.hasWrong(); run++) {
            new ReferenceTest(due, run, false).go(140);
        }
        for (int run = 0; run < 12 && !due.hasWrong(); run++) {
            new ReferenceTest(due, 1000 + run, true).go(60);
        }
        due.end();
    }

    private ReferenceTest(Due due, int run, boolean far) {
        this.due = due;
        this.far = far;
        random = new Random(7919L * run + 1);
        name = "run " + run + ": ";
        reach = far ? 5700 : 420;
        mirror = new Mirror(reach);
        naive = mirror.naive;
    }

    private int below(int n) {
        return random.nextInt(n);
    }

    private void is(String call, long want, Due.Call made) {
        due.is(name + call + " of " + told(0) + " | " + told(1) + " | " + told(2) + " | " + told(3), want, made);
    }

    private String told(int cost) {
        StringBuilder text = new StringBuilder();
        for (Naive.Step step : mirror.steps(cost)) {
            text.append(WORDS[step.kind()]);
            text.append(NUMBERS[step.kind()] > 0 ? " " + step.a() : "");
            text.append(NUMBERS[step.kind()] > 1 ? " " + step.b() : "");
            text.append(';');
        }
        return text.toString();
    }

    private Naive.Row row(int cost) {
        return mirror.row(cost);
    }

    private Naive.Step step(int cost) {
        int kind = below(9);
        int a = 0;
        int b = 0;
        if (kind <= 2) {
            a = far ? below(1001) - 500 : below(41) - 20;
            b = far ? below(100) : below(6);
        } else if (kind == 3) {
            a = far ? (random.nextBoolean() ? 500 : -480) : below(21) - 10;
        } else if (kind == 4) {
            a = below(far ? 100 : 7);
            b = below(far ? 100 : 7);
        } else if (kind == 7) {
            a = below(20);
        } else if (kind == 8) {
            a = (cost + 1 + below(3)) % 4;
        }
        return mirror.step(kind, a, b);
    }

    private void go(int calls) {
        for (int cost = 0; cost < 4; cost++) {
            readText(cost);
        }
        for (int i = 0; i < calls && !due.hasWrong(); i++) {
            if (below(3) == 0) {
                change();
            } else {
                ask();
            }
        }
    }

    /** Only so many steps that all kinks stay in the window, where that is small. */
    private int mostSteps() {
        return far ? 40 : 12;
    }

    private void readText(int cost) {
        List<Naive.Step> steps = new ArrayList<>();
        int many = below(mostSteps() - 1);
        for (int i = 0; i < many; i++) {
            steps.add(step(cost));
        }
        int former = mirror.steps(cost).size();
        StringBuilder text = new StringBuilder();
        int[] words = new int[many];
        for (int i = 0; i < many; i++) {
            words[i] = text.length();
            Naive.Step step = steps.get(i);
            text.append(WORDS[step.kind()]).append(NUMBERS[step.kind()] > 0 ? " " + step.a() : "");
            text.append(NUMBERS[step.kind()] > 1 ? "\n" + step.b() : "").append(';');
        }
        if (text.length() > 600) {
            return;
        }
        long want = mirror.text(cost, steps);
        int failed = mirror.faulty();
        is("text " + text + " in place of " + former + " steps", want, () -> Due.text(keeper, cost, text.toString()));
        is("fault", failed < 0 ? SlopeKeeper.NONE : words[failed], keeper::fault);
    }

    private void change() {
        int cost = below(4);
        int size = mirror.steps(cost).size();
        switch (below(9)) {
            case 0:
                readText(cost);
                break;
            case 1:
            case 2:
                if (size < mostSteps()) {
                    Naive.Step step = step(cost);
                    is("does", mirror.does(cost, step), () -> keeper.does(cost, step.kind(), step.a(), step.b()));
                }
                break;
            case 3:
                if (size < mostSteps()) {
                    Naive.Step step = step(cost);
                    int i = below(size + 1);
                    is("puts", mirror.puts(cost, i, step), () -> keeper.puts(cost, i, step.kind(), step.a(), step.b()));
                }
                break;
            case 4:
                if (size > 0) {
                    int i = below(size);
                    is("takes", mirror.takes(cost, i), () -> keeper.takes(cost, i));
                }
                break;
            case 5:
                int other = below(4);
                is("copy", mirror.copy(cost, other), () -> keeper.copy(cost, other));
                break;
            case 6:
                is("undo", mirror.undo(), keeper::undo);
                break;
            case 7:
                note();
                break;
            default:
                imageOrRestore();
        }
        for (int what = 0; what < 4; what++) {
            int one = what;
            is("count", mirror.steps(what).size(), () -> keeper.count(one));
            is("status", what < 3 ? mirror.refused(what) : mirror.acts(), () -> keeper.count(one < 3 ? 7 + one : 4));
        }
    }

    private void note() {
        if (below(3) == 0) {
            mirror.forget();
            keeper.forget();
            return;
        }
        int x = below(61) - 30;
        long v = row(0).get(x) + (below(5) == 0 ? 1 : 0);
        is("note", mirror.note(x, v), () -> keeper.note(x, v));
    }

    private void imageOrRestore() {
        if (random.nextBoolean()) {
            keeper.image();
            mirror.image();
            return;
        }
        is("restore", mirror.restore() ? 1 : 0, () -> keeper.restore() ? 1 : 0);
    }

    private void ask() {
        int cost = below(4);
        int other = below(4);
        Naive.Row f = row(cost);
        Naive.Row g = row(other);
        int x = below(6) == 0 ? below(2 * 100000 + 1) - 100000 : below(121) - 60;
        switch (below(12)) {
            case 0:
                askAlong(cost, f, x);
                break;
            case 1:
                askFlat(cost, f);
                break;
            case 2:
                askPath(cost, far ? below(9001) - 4500 : below(301) - 150);
                break;
            case 3:
                askOff(cost, f);
                break;
            case 4:
                askSplit(cost, other, below(201) - 100);
                break;
            case 5:
                askTwo(cost, other, f, g);
                break;
            case 6:
                int s = below(25) - 12;
                is("against " + s, Naive.against(f, s, false), () -> keeper.against(cost, s, 0));
                is("against " + s, Naive.against(f, s, true), () -> keeper.against(cost, s, 1));
                break;
            case 7:
                askSteps(cost);
                break;
            case 8:
                askFits();
                break;
            case 9:
                int seed = random.nextInt();
                int n = below(far ? 5 : 21);
                for (int what = 0; what < 3; what++) {
                    int one = what;
                    is("years " + seed + " " + n, naive.years(row(0), seed, n, what), () -> keeper.years(seed, n, one));
                }
                break;
            default:
                askTold(cost);
        }
    }

    private void askAlong(int cost, Naive.Row f, int x) {
        is("at " + x, f.get(x), () -> keeper.at(cost, x));
        is("slope ahead of " + x, f.slopeBehind(x - 1), () -> keeper.slope(cost, x, 0));
        is("slope behind " + x, f.slopeBehind(x), () -> keeper.slope(cost, x, 1));
        is("least", f.least(), () -> keeper.least(cost));
    }

    private void askFlat(int cost, Naive.Row f) {
        List<int[]> kinks = f.kinks();
        is("from", Naive.off(f, 0, true, reach), () -> keeper.flat(cost, 0));
        is("to", Naive.off(f, 0, false, reach), () -> keeper.flat(cost, 1));
        is("best end", Naive.bestEnd(f), () -> keeper.flat(cost, 2));
        is("kinks", kinks.size(), () -> keeper.flat(cost, 3));
        is("weights", kinks.stream().mapToInt(kink -> kink[1]).sum(), () -> keeper.flat(cost, 4));
        for (int i = 0; i < kinks.size(); i++) {
            int one = i;
            is("kink", kinks.get(i)[0], () -> keeper.kink(cost, one, 0));
            is("weight", kinks.get(i)[1], () -> keeper.kink(cost, one, 1));
        }
        is("kink behind all", Due.NO_SUCH, () -> keeper.kink(cost, kinks.size(), 0));
    }

    private void askPath(int cost, int x) {
        List<Naive.Step> steps = mirror.steps(cost);
        int[] path = Naive.path(steps, mirror.rows(cost), x);
        int way = 0;
        long all = 0;
        for (int i = 0; i <= steps.size(); i++) {
            int many = i;
            is("path to " + x, path[i], () -> keeper.path(cost, x, many));
            if (i < steps.size()) {
                long paid = Naive.costAt(steps.get(i), path[i + 1]);
                is("paid to " + x, paid, () -> keeper.paid(cost, x, many));
                way += Math.abs(path[i + 1] - path[i]);
                all += paid;
            }
        }
        is("stretch to " + x, way, () -> keeper.stretch(cost, x));
        is("all it costs", all, () -> keeper.at(cost, x));
    }

    private void askOff(int cost, Naive.Row f) {
        int much = below(300);
        int window = reach + 400;
        is("off " + much, Naive.off(f, much, true, window), () -> keeper.off(cost, much, 0));
        is("off " + much, Naive.off(f, much, false, window), () -> keeper.off(cost, much, 1));
    }

    private void askSplit(int cost, int other, int x) {
        int window = 2 * reach;
        is("split " + x, Naive.split(row(cost), row(other), x, window), () -> keeper.split(cost, other, x));
        is("where " + x, Naive.where(row(cost), row(other), x, window), () -> keeper.where(cost, other, x));
        if (far || below(4) != 0) {
            return;
        }
        int set = 1 + below(15);
        int last = 31 - Integer.numberOfLeadingZeros(set);
        Naive.Row all = null;
        for (int member = 0; member < last; member++) {
            if ((set >> member & 1) == 1) {
                all = all == null ? row(member) : Naive.joined(all, row(member), 3 * reach);
            }
        }
        long want = all == null ? row(last).get(x) : Naive.split(all, row(last), x, 6 * reach);
        is("shared " + set + " at " + x, want, () -> keeper.shared(set, x));
    }

    private void askTwo(int cost, int other, Naive.Row f, Naive.Row g) {
        long gap = 0;
        int leads = 0;
        int first = SlopeKeeper.NOWHERE;
        int meet = SlopeKeeper.NOWHERE;
        for (int x = -500; x <= 500; x++) {
            gap = Math.max(gap, Math.abs(f.get(x) - g.get(x)));
            if (f.get(x) < g.get(x)) {
                first = leads == 0 ? x : first;
                leads++;
            }
        }
        for (int away = 1000; away >= 0; away--) {
            meet = f.get(away) == g.get(away) ? away : meet;
            meet = f.get(-away) == g.get(-away) ? -away : meet;
        }
        boolean alike = Arrays.equals(f.values, g.values);
        long wide = gap;
        int many = leads;
        int start = first;
        int met = meet;
        is("gap", wide, () -> keeper.gap(cost, other));
        is("leads", many, () -> keeper.leads(cost, other, 0));
        is("leads first", start, () -> keeper.leads(cost, other, 1));
        is("meet", met, () -> keeper.meet(cost, other));
        is("alike", alike ? 1 : 0, () -> keeper.alike(cost, other));
    }

    private void askSteps(int cost) {
        List<Naive.Step> steps = mirror.steps(cost);
        if (far && below(4) != 0) {
            return;
        }
        long most = Long.MIN_VALUE;
        int dearest = SlopeKeeper.NONE;
        for (int i = 0; i < steps.size(); i++) {
            int one = i;
            long spared = naive.spared(steps, i);
            is("spared " + i, spared, () -> keeper.spared(cost, one));
            if (spared > most) {
                most = spared;
                dearest = i;
            }
        }
        int due = dearest;
        is("dearest", due, () -> keeper.dearest(cost));
        if (!steps.isEmpty()) {
            int i = below(steps.size());
            int much = (int) Math.max(0, row(cost).least() + below(60) - 20);
            long want = steps.get(i).kind() > 2 ? Due.NO_SUCH : naive.heaviest(steps, i, much);
            is("heaviest " + i + " for " + much, want, () -> keeper.heaviest(cost, i, much));
        }
    }

    private void askFits() {
        List<Naive.Step> steps = mirror.steps(0);
        if (steps.isEmpty() || (far && below(4) != 0)) {
            return;
        }
        int i = below(steps.size());
        boolean may = steps.get(i).kind() <= 2;
        for (int what = 0; what < 2; what++) {
            int one = what;
            is("fits " + i, may ? naive.fits(steps, i, mirror.noted(), what) : Due.NO_SUCH, () -> keeper.fits(i, one));
            is("look " + i, may ? naive.look(steps, i, mirror.noted(), what) : Due.NO_SUCH, () -> keeper.look(i, one));
        }
    }

    private void askTold(int cost) {
        String text = told(cost);
        is("told", text.length(), () -> keeper.told(cost, SlopeKeeper.NONE));
        is("told " + text, 1, () -> text.equals(Due.told(keeper, cost)) ? 1 : 0);
        List<Naive.Step> steps = mirror.steps(cost);
        for (int i = 0; i < steps.size(); i++) {
            Naive.Step step = steps.get(i);
            int one = i;
            is("kind", step.kind(), () -> keeper.step(cost, one, 0));
            is("first", step.a(), () -> keeper.step(cost, one, 1));
            is("second", step.b(), () -> keeper.step(cost, one, 2));
        }
    }
}
