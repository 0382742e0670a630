import java.util.ArrayList;
import java.util.Arrays;
import java.util.HashSet;
import java.util.List;
import java.util.Set;

/**
 * The document's words taken literally: a cost is a row of values, one for each place of a window, and goes on
 * beyond it as at its ends. Slow, and right only as long as all kinks lie within the window.
 */
final class Naive {
    static final int NONE = -1;
    static final int NOWHERE = -10000000;

    /** A row of values for -reach to reach. */
    static final class Row {
        final int reach;
        final long[] values;
        private long least = -1;

        Row(int reach) {
            this.reach = reach;
            values = new long[2 * reach + 1];
        }

        long get(long x) {
            if (x < -reach) {
                return values[0] + (-reach - x) * (values[0] - values[1]);
            }
            if (x > reach) {
                int last = values.length - 1;
                return values[last] + (x - reach) * (values[last] - values[last - 1]);
            }
            return values[(int) x + reach];
        }

        /** Asked only when all values stand. */
        long least() {
            if (least < 0) {
                least = Arrays.stream(values).min().getAsLong();
            }
            return least;
        }

        long slopeBehind(long x) {
            return get(x + 1) - get(x);
        }

        List<int[]> kinks() {
            List<int[]> kinks = new ArrayList<>();
            for (int x = -reach + 1; x < reach; x++) {
                int weight = (int) (slopeBehind(x) - slopeBehind(x - 1));
                if (weight != 0) {
                    kinks.add(new int[] {x, weight});
                }
            }
            return kinks;
        }

        boolean isTooMuch() {
            int weights = 0;
            for (int[] kink : kinks()) {
                if (Math.abs(kink[0]) > 5000) {
                    return true;
                }
                weights += kink[1];
            }
            return weights > 5000 || least() > 100000000;
        }
    }

    record Step(int kind, int a, int b, Row top) {
    }

    private final int reach;

    Naive(int reach) {
        this.reach = reach;
    }

    Row zero() {
        return new Row(reach);
    }

    Row after(Row f, Step step) {
        Row made = new Row(reach);
        for (int x = -reach; x <= reach; x++) {
            made.values[x + reach] = valueAfter(f, step, x);
        }
        if (step.kind == 5) {
            for (int i = 1; i < made.values.length; i++) {
                made.values[i] = Math.min(made.values[i], made.values[i - 1]);
            }
        }
        if (step.kind == 6) {
            for (int i = made.values.length - 2; i >= 0; i--) {
                made.values[i] = Math.min(made.values[i], made.values[i + 1]);
            }
        }
        return made;
    }

    private static long valueAfter(Row f, Step step, int x) {
        switch (step.kind) {
            case 0:
            case 1:
            case 2:
            case 7:
            case 8:
                return f.get(x) + costAt(step, x);
            case 3:
                return f.get(x - step.a);
            case 4:
                long least = Long.MAX_VALUE;
                for (int y = x - step.b; y <= x + step.a; y++) {
                    least = Math.min(least, f.get(y));
                }
                return least;
            default:
                return f.get(x);
        }
    }

    static long costAt(Step step, long x) {
        switch (step.kind) {
            case 0:
                return step.b * Math.abs(x - step.a);
            case 1:
                return x > step.a ? step.b * (x - step.a) : 0;
            case 2:
                return x < step.a ? step.b * (step.a - x) : 0;
            case 7:
                return step.a;
            case 8:
                return step.top.get(x);
            default:
                return 0;
        }
    }

    /** All rows, ahead of the first step and behind each; null, if one of them is too much. */
    List<Row> rows(List<Step> steps) {
        List<Row> rows = new ArrayList<>();
        rows.add(zero());
        for (Step step : steps) {
            Row row = after(rows.get(rows.size() - 1), step);
            if (row.isTooMuch()) {
                return null;
            }
            rows.add(row);
        }
        return rows;
    }

    Row last(List<Step> steps) {
        List<Row> rows = rows(steps);
        return rows == null ? null : rows.get(rows.size() - 1);
    }

    /** All places of the path, ahead of the first step and behind each. */
    static int[] path(List<Step> steps, List<Row> rows, int end) {
        int[] places = new int[steps.size() + 1];
        places[steps.size()] = end;
        for (int i = steps.size() - 1; i >= 0; i--) {
            Step step = steps.get(i);
            Row ahead = rows.get(i);
            int x = places[i + 1];
            switch (step.kind) {
                case 3:
                    places[i] = x - step.a;
                    break;
                case 4:
                    places[i] = bestNear(ahead, x - step.b, x + step.a, x);
                    break;
                case 5:
                    places[i] = bestNear(ahead, Math.min(-ahead.reach, x), x, x);
                    break;
                case 6:
                    places[i] = bestNear(ahead, x, Math.max(ahead.reach, x), x);
                    break;
                default:
                    places[i] = x;
            }
        }
        return places;
    }

    private static int bestNear(Row f, int from, int to, int x) {
        int best = from;
        for (int y = from; y <= to; y++) {
            if (f.get(y) < f.get(best) || (f.get(y) == f.get(best) && Math.abs(y - x) < Math.abs(best - x))) {
                best = y;
            }
        }
        return best;
    }

    static int off(Row f, long much, boolean least, int window) {
        int found = NOWHERE;
        for (int x = -window; x <= window; x++) {
            if (f.get(x) <= f.least() + much && (found == NOWHERE || !least)) {
                found = x;
            }
        }
        return Math.abs(found) == window ? NOWHERE : found;
    }

    static int bestEnd(Row f) {
        int best = NOWHERE;
        for (int x = -f.reach; x <= f.reach; x++) {
            if (f.get(x) == f.least() && Math.abs(x) < Math.abs(best)) {
                best = x;
            }
        }
        return best;
    }

    static long split(Row f, Row g, int x, int window) {
        long least = Long.MAX_VALUE;
        for (int y = -window; y <= window; y++) {
            least = Math.min(least, f.get(y) + g.get(x - y));
        }
        return least;
    }

    static int where(Row f, Row g, int x, int window) {
        long least = split(f, g, x, window);
        int best = NOWHERE;
        for (int y = -window; y <= window; y++) {
            if (f.get(y) + g.get(x - y) == least && Math.abs(y) < Math.abs(best)) {
                best = y;
            }
        }
        return best;
    }

    static Row joined(Row f, Row g, int window) {
        Row made = new Row(window);
        for (int x = -window; x <= window; x++) {
            made.values[x + window] = split(f, g, x, 2 * window);
        }
        return made;
    }

    static long against(Row f, int slope, boolean where) {
        if (slope < f.slopeBehind(-f.reach - 5) || slope > f.slopeBehind(f.reach + 5)) {
            return NOWHERE;
        }
        int best = 0;
        for (int x = -f.reach; x <= f.reach; x++) {
            long better = (long) slope * x - f.get(x) - ((long) slope * best - f.get(best));
            if (better > 0 || (better == 0 && Math.abs(x) < Math.abs(best))) {
                best = x;
            }
        }
        return where ? best : (long) slope * best - f.get(best);
    }

    private List<Step> weighted(List<Step> steps, int i, int weight) {
        List<Step> changed = new ArrayList<>(steps);
        Step step = changed.get(i);
        changed.set(i, new Step(step.kind, step.a, weight, step.top));
        return changed;
    }

    int heaviest(List<Step> steps, int i, long much) {
        int heaviest = NONE;
        for (int weight = 0; weight <= 40; weight++) {
            Row f = last(weighted(steps, i, weight));
            if (f != null && f.least() <= much) {
                heaviest = weight;
            }
        }
        return heaviest;
    }

    long spared(List<Step> steps, int i) {
        List<Step> others = new ArrayList<>(steps);
        others.remove(i);
        Row f = last(others);
        return f == null ? -1000000000 : last(steps).least() - f.least();
    }

    private List<Row> fitting(List<Step> steps, int i, List<long[]> noted, List<Integer> weights) {
        List<Row> fitting = new ArrayList<>();
        for (int weight = 0; weight <= 40; weight++) {
            Row f = last(weighted(steps, i, weight));
            if (f != null && noted.stream().allMatch(note -> f.get(note[0]) == note[1])) {
                fitting.add(f);
                weights.add(weight);
            }
        }
        return fitting;
    }

    int fits(List<Step> steps, int i, List<long[]> noted, int what) {
        List<Integer> weights = new ArrayList<>();
        fitting(steps, i, noted, weights);
        if (what == 0) {
            return weights.size();
        }
        return weights.isEmpty() ? NONE : weights.get(0);
    }

    int look(List<Step> steps, int i, List<long[]> noted, int what) {
        List<Row> fitting = fitting(steps, i, noted, new ArrayList<>());
        int most = 0;
        int best = NOWHERE;
        for (int x = -20; x <= 20; x++) {
            Set<Long> unlike = new HashSet<>();
            for (Row f : fitting) {
                unlike.add(f.get(x));
            }
            if (unlike.size() > most) {
                most = unlike.size();
                best = x;
            }
        }
        return what == 0 ? best : most;
    }

    private int seed;

    private int draw(int n) {
        seed = seed * 1103515245 + 12345;
        int bits = 0;
        for (int bit = 30; bit >= 16; bit--) {
            bits = 2 * bits + (seed >> bit & 1);
        }
        return bits % n;
    }

    long years(Row start, int firstSeed, int n, int what) {
        seed = firstSeed;
        Row f = start;
        for (int i = 0; i < n; i++) {
            Row made = after(f, drawnStep());
            f = made.isTooMuch() ? f : made;
        }
        if (what == 0) {
            return f.least();
        }
        return what == 1 ? f.kinks().size() : f.get(0);
    }

    private Step drawnStep() {
        int kind = new int[] {0, 1, 2, 2, 3, 4, 5, 7}[draw(8)];
        int a = 0;
        int b = 0;
        if (kind <= 2) {
            a = draw(101) - 50;
            b = draw(10);
        } else if (kind == 3) {
            a = draw(21) - 10;
        } else if (kind == 4) {
            a = draw(6);
            b = draw(6);
        } else if (kind == 7) {
            a = draw(10);
        }
        return new Step(kind, a, b, null);
    }
}
