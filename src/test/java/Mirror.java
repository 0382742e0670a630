import java.util.ArrayList;
import java.util.List;

/** Costs, acts, what is noted, status and image as the document tells them; each cost with all its rows of values. */
final class Mirror {
    private static final int MOST = 40;

    /** Rows: ahead of the first step and behind each. */
    private record Cost(List<Naive.Step> steps, List<Naive.Row> rows) {
    }

    private record Act(int cost, Cost before) {
    }

    private record Kept(List<Cost> costs, List<Act> acts, List<long[]> noted, int[] refused) {
    }

    final Naive naive;
    private List<Cost> costs = new ArrayList<>();
    private List<Act> acts = new ArrayList<>();
    private List<long[]> noted = new ArrayList<>();
    private int[] refused = new int[3];
    private Kept kept;
    /** The step by which the latest steps that were tried are too much; -1 if they are not. */
    private int faulty;

    Mirror(int reach) {
        naive = new Naive(reach);
        for (int cost = 0; cost < 4; cost++) {
            costs.add(new Cost(List.of(), List.of(naive.zero())));
        }
    }

    List<Naive.Step> steps(int cost) {
        return costs.get(cost).steps;
    }

    List<Naive.Row> rows(int cost) {
        return costs.get(cost).rows;
    }

    Naive.Row row(int cost) {
        List<Naive.Row> rows = rows(cost);
        return rows.get(rows.size() - 1);
    }

    List<long[]> noted() {
        return noted;
    }

    int acts() {
        return acts.size();
    }

    int refused(int status) {
        return refused[status];
    }

    int faulty() {
        return faulty;
    }

    Naive.Step step(int kind, int a, int b) {
        return new Naive.Step(kind, a, b, kind == 8 ? row(a) : null);
    }

    long does(int cost, Naive.Step step) {
        return puts(cost, steps(cost).size(), step);
    }

    long puts(int cost, int i, Naive.Step step) {
        List<Naive.Step> steps = new ArrayList<>(steps(cost));
        if (steps.size() >= MOST || (step.kind() == 8 && step.a() == cost)) {
            return refuse();
        }
        steps.add(i, step);
        return become(cost, steps);
    }

    long takes(int cost, int i) {
        List<Naive.Step> steps = new ArrayList<>(steps(cost));
        if (i >= steps.size()) {
            return refuse();
        }
        steps.remove(i);
        return become(cost, steps);
    }

    long copy(int cost, int other) {
        if (cost == other || steps(other).stream().anyMatch(step -> step.kind() == 8 && step.a() == cost)) {
            return refuse();
        }
        act(cost, costs.get(other));
        return steps(cost).size();
    }

    /** 0, or the fault that it is too much. */
    long text(int cost, List<Naive.Step> steps) {
        Cost made = made(costs.get(cost), steps);
        if (made == null) {
            refused[0]++;
            return 4;
        }
        act(cost, made);
        return 0;
    }

    private long become(int cost, List<Naive.Step> steps) {
        Cost made = made(costs.get(cost), steps);
        if (made == null) {
            return refuse();
        }
        act(cost, made);
        return steps.size();
    }

    private long refuse() {
        refused[1]++;
        return Naive.NONE;
    }

    /** Rows behind steps that are the former cost's as well are taken from there. Null, if a step is too much. */
    private Cost made(Cost former, List<Naive.Step> steps) {
        List<Naive.Row> rows = new ArrayList<>();
        rows.add(naive.zero());
        boolean same = true;
        faulty = -1;
        for (int i = 0; i < steps.size(); i++) {
            same = same && i < former.steps.size() && former.steps.get(i) == steps.get(i);
            Naive.Row row = same ? former.rows.get(i + 1) : naive.after(rows.get(i), steps.get(i));
            if (!same && row.isTooMuch()) {
                faulty = i;
                return null;
            }
            rows.add(row);
        }
        return new Cost(List.copyOf(steps), rows);
    }

    private void act(int cost, Cost made) {
        acts.add(new Act(cost, costs.get(cost)));
        if (acts.size() > MOST) {
            acts.remove(0);
        }
        costs.set(cost, made);
    }

    long undo() {
        if (acts.isEmpty()) {
            return Naive.NONE;
        }
        Act act = acts.remove(acts.size() - 1);
        costs.set(act.cost, act.before);
        return acts.size();
    }

    long note(int x, long v) {
        if (noted.size() >= 8) {
            refused[2]++;
            return Naive.NONE;
        }
        noted.add(new long[] {x, v});
        return noted.size();
    }

    void forget() {
        noted.clear();
    }

    void image() {
        kept = new Kept(new ArrayList<>(costs), new ArrayList<>(acts), new ArrayList<>(noted), refused.clone());
    }

    boolean restore() {
        if (kept == null) {
            return false;
        }
        costs = new ArrayList<>(kept.costs);
        acts = new ArrayList<>(kept.acts);
        noted = new ArrayList<>(kept.noted);
        refused = kept.refused.clone();
        return true;
    }
}
