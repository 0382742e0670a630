import java.util.Arrays;
import java.util.NoSuchElementException;

/**
 * A keeper of convex costs. Each of four costs is a chain of steps; the curve that the steps make is kept by its
 * kinks, so that an answer never needs to go through all places. Of what was (acts, the image) the steps alone are
 * kept, and the curve is made from them again.
 */
public final class SlopeKeeper {
    public static final int NONE = -1;
    public static final int NOWHERE = -10000000;

    private static final int COSTS = 4;
    private static final int MOST_STEPS = 40;
    private static final int MOST_ACTS = 40;
    private static final int MOST_NOTES = 8;
    private static final int TAPE_ROOM = 600;
    private static final int FED_BYTES = 20;

    private static final int FARTHEST_X = 100000;
    private static final int FARTHEST_KINK = 5000;
    private static final int MOST_WEIGHT = 5000;
    private static final long MOST_LEAST = 100000000L;
    private static final int MOST_OFF = 1000000;
    private static final int STEEPEST_AGAINST = 200;
    private static final int HIGHEST_TRIED_WEIGHT = 40;
    private static final int COMPARED_X = 500;
    private static final int MEETING_X = 1000;
    private static final int LOOKED_X = 20;
    private static final int MOST_YEARS = 20;
    private static final long NOT_SPARED = -1000000000L;
    /** Stands for a place without bound; sums of four of them still fit a long, sums of two an int. */
    private static final int FAR = 1000000000;
    /** In place of a weight: the step is to be left out. */
    private static final int LEFT_OUT = -1;

    private static final int KINK = 0;
    private static final int OVER = 1;
    private static final int UNDER = 2;
    private static final int DRIFT = 3;
    private static final int MOVE = 4;
    private static final int RISE = 5;
    private static final int FALL = 6;
    private static final int PLUS = 7;
    private static final int AND = 8;
    private static final int KINDS = 9;

    private static final int[] NUMBERS = {2, 2, 2, 1, 2, 0, 0, 1, 1};
    private static final int[] LOWEST_FIRST = {-500, -500, -500, -500, 0, 0, 0, 0, 0};
    private static final int[] HIGHEST_FIRST = {500, 500, 500, 500, 99, 0, 0, 999, 3};
    private static final int HIGHEST_SECOND = 99;

    private static final int CANT_STAND = 1;
    private static final int NOT_AS_TOLD = 2;
    private static final int ONE_TOO_MANY = 3;
    private static final int WOULD_BE_TOO_MUCH = 4;

    private static final int REFUSED_TEXTS = 0;
    private static final int REFUSED_ACTS = 1;
    private static final int REFUSED_NOTES = 2;

    private byte[] tape;
    private int tapeSize;
    private int faultPlace;
    private final Reader reader;
    private final Bench bench;
    private final Shelf shelf;
    private final Trail trail;
    private final Teller teller;
    /** The seed, as the latest draw left it. */
    private int drawn;
    private final Walk one;
    private final Walk two;
    private final long[] lookedValues;
    private final int[] unlike;
    /** What the chains of now make: whatever changes a chain brings its curve up to it. */
    private final Curve[] curves;
    private final Curve[] team;
    /** Where the steps of an act stand until it is known that they are not too much. */
    private final Chain draft;
    private final State now;
    private State kept;

    public SlopeKeeper() {
        tape = new byte[0];
        tapeSize = 0;
        faultPlace = NONE;
        reader = new Reader();
        bench = new Bench();
        shelf = new Shelf();
        trail = new Trail();
        teller = new Teller();
        drawn = 0;
        lookedValues = new long[2 * LOOKED_X + 1];
        unlike = new int[2 * LOOKED_X + 1];
        curves = new Curve[COSTS];
        team = new Curve[COSTS];
        for (int cost = 0; cost < COSTS; cost++) {
            curves[cost] = new Curve();
            team[cost] = curves[cost];
        }
        one = new Walk(curves[0]);
        two = new Walk(curves[0]);
        draft = new Chain();
        now = new State();
        kept = null;
    }

    public int feed(int a, int b, int c, int d, int e) {
        if (tapeSize + FED_BYTES > TAPE_ROOM) {
            return NONE;
        }
        if (tape.length < TAPE_ROOM) {
            tape = new byte[TAPE_ROOM];
        }
        feedFour(a);
        feedFour(b);
        feedFour(c);
        feedFour(d);
        feedFour(e);
        return tapeSize;
    }

    private void feedFour(int four) {
        for (int shift = 24; shift >= 0; shift -= 8) {
            if (tapeSize < tape.length) {
                tape[tapeSize] = (byte) (four >>> shift);
                tapeSize++;
            }
        }
    }

    public int text(int cost, int n) throws NoSuchElementException, IllegalArgumentException {
        needCost(cost);
        needFit(n >= 0 && n <= tapeSize);
        tapeSize = 0;
        reader.read(tape, n, cost);
        if (reader.fault != 0) {
            return refuseText(reader.fault, reader.faultAt);
        }
        draftReadSteps();
        if (!bench.build(draft)) {
            return refuseText(WOULD_BE_TOO_MUCH, reader.wordPlace(bench.failed));
        }
        faultPlace = NONE;
        become(cost);
        return 0;
    }

    private int refuseText(int fault, int place) {
        faultPlace = place;
        now.refused[REFUSED_TEXTS]++;
        return fault;
    }

    private void draftReadSteps() {
        draft.clear();
        for (int i = 0; i < reader.clauses && i < MOST_STEPS; i++) {
            draft.insert(i, newStep(reader.kinds[i], reader.firsts[i], reader.seconds[i]));
        }
    }

    public int fault() {
        return faultPlace;
    }

    public int count(int what) throws NoSuchElementException {
        switch (what) {
            case 0:
            case 1:
            case 2:
            case 3:
                return chainOf(what).size;
            case 4:
                return now.acts;
            case 5:
                return now.notes;
            case 6:
                return tapeSize;
            case 7:
                return now.refused[REFUSED_TEXTS];
            case 8:
                return now.refused[REFUSED_ACTS];
            case 9:
                return now.refused[REFUSED_NOTES];
            default:
                throw new NoSuchElementException("nothing such is counted");
        }
    }

    public int step(int cost, int i, int what) throws NoSuchElementException {
        Step step = stepOf(cost, i);
        needSuch(what >= 0 && what <= 2);
        if (what == 0) {
            return step.kind;
        }
        return what == 1 ? step.first : step.second;
    }

    public long at(int cost, int x) throws NoSuchElementException, IllegalArgumentException {
        Curve curve = curveOf(cost);
        needX(x);
        return curve.valueAt(x);
    }

    public long least(int cost) throws NoSuchElementException {
        return curveOf(cost).bottom;
    }

    public int flat(int cost, int what) throws NoSuchElementException {
        Curve curve = curveOf(cost);
        switch (what) {
            case 0:
                return orNowhere(curve.lowEnd(0));
            case 1:
                return orNowhere(curve.highEnd(0));
            case 2:
                return curve.nearestToZero(0);
            case 3:
                return curve.kinks;
            case 4:
                return curve.total;
            default:
                throw new NoSuchElementException("a flat has nothing such");
        }
    }

    public int kink(int cost, int i, int what) throws NoSuchElementException {
        Curve curve = curveOf(cost);
        needSuch(i >= 0 && i < curve.kinks && (what == 0 || what == 1));
        return what == 0 ? curve.placeOf(i) : curve.weightOf(i);
    }

    public int slope(int cost, int x, int what) throws NoSuchElementException, IllegalArgumentException {
        Curve curve = curveOf(cost);
        needSuch(what == 0 || what == 1);
        needX(x);
        return curve.slopeBehind(what == 0 ? x - 1 : x);
    }

    public int path(int cost, int x, int steps) throws NoSuchElementException, IllegalArgumentException {
        Chain chain = chainOf(cost);
        needSuch(steps >= 0 && steps <= chain.size);
        needX(x);
        trail.lay(chain, bench);
        return trail.placeBehind(steps, x);
    }

    public long paid(int cost, int x, int i) throws NoSuchElementException, IllegalArgumentException {
        Step step = stepOf(cost, i);
        needX(x);
        trail.lay(chainOf(cost), bench);
        return bench.costBy(step, trail.placeBehind(i + 1, x));
    }

    public int off(int cost, int much, int what) throws NoSuchElementException, IllegalArgumentException {
        Curve curve = curveOf(cost);
        needSuch(what == 0 || what == 1);
        needFit(much >= 0 && much <= MOST_OFF);
        int start = what == 0 ? curve.lowEnd(0) : curve.highEnd(0);
        int sign = what == 0 ? -1 : 1;
        if (isFar(start)) {
            return NOWHERE;
        }
        return start + sign * farthestWithin(curve, start, sign, much);
    }

    /** Beyond the flat each place costs at least 1 more, so that nobody can be off farther than by so much. */
    private static int farthestWithin(Curve curve, int start, int sign, int much) {
        int low = 0;
        int high = much;
        for (int round = 0; round < 32 && low < high; round++) {
            int middle = (low + high + 1) / 2;
            if (curve.valueAt(start + sign * middle) - curve.bottom <= much) {
                low = middle;
            } else {
                high = middle - 1;
            }
        }
        return low;
    }

    public long split(int cost, int other, int x) throws NoSuchElementException, IllegalArgumentException {
        gatherTwo(cost, other);
        needX(x);
        return sharedValue(2, x);
    }

    public int where(int cost, int other, int x) throws NoSuchElementException, IllegalArgumentException {
        gatherTwo(cost, other);
        needX(x);
        int slope = commonSlope(2, x);
        int from = Math.max(team[0].lowEnd(slope), x - team[1].highEnd(slope));
        int to = Math.min(team[0].highEnd(slope), x - team[1].lowEnd(slope));
        return clamp(0, from, to);
    }

    private void gatherTwo(int cost, int other) {
        needCost(cost);
        needCost(other);
        team[0] = curveOf(cost);
        team[1] = curveOf(other);
    }

    public long shared(int set, int x) throws IllegalArgumentException {
        needFit(set >= 1 && set <= 15);
        needX(x);
        int members = 0;
        for (int cost = 0; cost < COSTS; cost++) {
            if ((set >> cost & 1) == 1) {
                team[members] = curveOf(cost);
                members++;
            }
        }
        return sharedValue(members, x);
    }

    /** Where the sum is least all curves have one slope; along it each may stand at any of its places. */
    private long sharedValue(int members, int x) {
        long slope = commonSlope(members, x);
        long value = slope * x;
        for (int i = 0; i < members && i < team.length; i++) {
            int place = team[i].nearestToZero((int) slope);
            value += team[i].valueAt(place) - slope * place;
        }
        return value;
    }

    /** The lowest slope at whose high ends the team's first curves reach x together. */
    private int commonSlope(int members, int x) {
        int low = -MOST_WEIGHT;
        int high = MOST_WEIGHT;
        for (int i = 0; i < members && i < team.length; i++) {
            low = Math.max(low, -team[i].left);
            high = Math.min(high, team[i].total - team[i].left);
        }
        for (int round = 0; round < 32 && low < high; round++) {
            int middle = Math.floorDiv(low + high, 2);
            if (highEndsTogether(members, middle) >= x) {
                high = middle;
            } else {
                low = middle + 1;
            }
        }
        return low;
    }

    private long highEndsTogether(int members, int slope) {
        long sum = 0;
        for (int i = 0; i < members && i < team.length; i++) {
            sum += team[i].highEnd(slope);
        }
        return sum;
    }

    public int stretch(int cost, int x) throws NoSuchElementException, IllegalArgumentException {
        Chain chain = chainOf(cost);
        needX(x);
        trail.lay(chain, bench);
        return trail.wayTo(x);
    }

    public int leads(int cost, int other, int what) throws NoSuchElementException {
        one.startAt(curveOf(cost), -COMPARED_X);
        two.startAt(curveOf(other), -COMPARED_X);
        needSuch(what == 0 || what == 1);
        int many = 0;
        int first = NOWHERE;
        for (int x = -COMPARED_X; x <= COMPARED_X; x++) {
            if (one.value < two.value) {
                first = many == 0 ? x : first;
                many++;
            }
            one.goOn();
            two.goOn();
        }
        return what == 0 ? many : first;
    }

    public long against(int cost, int slope, int what) throws NoSuchElementException, IllegalArgumentException {
        Curve curve = curveOf(cost);
        needSuch(what == 0 || what == 1);
        needFit(slope >= -STEEPEST_AGAINST && slope <= STEEPEST_AGAINST);
        if (slope < -curve.left || slope > curve.total - curve.left) {
            return NOWHERE;
        }
        int place = curve.nearestToZero(slope);
        return what == 0 ? (long) slope * place - curve.valueAt(place) : place;
    }

    public int meet(int cost, int other) throws NoSuchElementException {
        one.startAt(curveOf(cost), -MEETING_X);
        two.startAt(curveOf(other), -MEETING_X);
        int nearest = NOWHERE;
        for (int x = -MEETING_X; x <= MEETING_X; x++) {
            if (one.value == two.value && Math.abs(x) < Math.abs(nearest)) {
                nearest = x;
            }
            one.goOn();
            two.goOn();
        }
        return nearest;
    }

    public int heaviest(int cost, int step, int much) throws NoSuchElementException, IllegalArgumentException {
        needSuch(stepOf(cost, step).kind <= UNDER);
        needFit(much >= 0 && much <= MOST_LEAST);
        Chain chain = chainOf(cost);
        bench.standAhead(chain, step);
        for (int weight = HIGHEST_TRIED_WEIGHT; weight >= 0; weight--) {
            if (bench.goThrough(chain, step, weight) && bench.work.bottom <= much) {
                return weight;
            }
        }
        return NONE;
    }

    public long spared(int cost, int step) throws NoSuchElementException {
        stepOf(cost, step);
        return sparedBy(chainOf(cost), curveOf(cost), step);
    }

    private long sparedBy(Chain chain, Curve curve, int step) {
        bench.standAhead(chain, step);
        if (!bench.goThrough(chain, step, LEFT_OUT)) {
            return NOT_SPARED;
        }
        return curve.bottom - bench.work.bottom;
    }

    public int dearest(int cost) throws NoSuchElementException {
        Chain chain = chainOf(cost);
        int dearest = NONE;
        long most = 0;
        for (int i = 0; i < chain.size; i++) {
            long spared = sparedBy(chain, curveOf(cost), i);
            if (dearest == NONE || spared > most) {
                dearest = i;
                most = spared;
            }
        }
        return dearest;
    }

    public long gap(int cost, int other) throws NoSuchElementException {
        one.startAt(curveOf(cost), -COMPARED_X);
        two.startAt(curveOf(other), -COMPARED_X);
        long widest = 0;
        for (int x = -COMPARED_X; x <= COMPARED_X; x++) {
            widest = Math.max(widest, Math.abs(one.value - two.value));
            one.goOn();
            two.goOn();
        }
        return widest;
    }

    public int alike(int cost, int other) throws NoSuchElementException {
        return curveOf(cost).isSameAs(curveOf(other)) ? 1 : 0;
    }

    public int told(int cost, int i) throws NoSuchElementException {
        Chain chain = chainOf(cost);
        teller.listenFor(i);
        for (int k = 0; k < chain.size; k++) {
            teller.putStep(chain.stepAt(k));
        }
        if (i == NONE) {
            return teller.length;
        }
        needSuch(i >= 0 && i < teller.length);
        return teller.heard;
    }

    public int does(int cost, int kind, int a, int b) {
        if (!isTellable(cost, kind, a, b)) {
            return refuseAct();
        }
        Step step = newStep(kind, a, b);
        bench.startWith(curveOf(cost));
        if (!bench.applyStep(step)) {
            return refuseAct();
        }
        draft.take(chainOf(cost));
        draft.insert(draft.size, step);
        return become(cost);
    }

    public int puts(int cost, int i, int kind, int a, int b) {
        if (!isTellable(cost, kind, a, b)) {
            return refuseAct();
        }
        Chain chain = chainOf(cost);
        if (i < 0 || i > chain.size) {
            return refuseAct();
        }
        draft.take(chain);
        draft.insert(i, newStep(kind, a, b));
        return becomeUnlessTooMuch(cost);
    }

    public int takes(int cost, int i) {
        if (!isCost(cost)) {
            return refuseAct();
        }
        Chain chain = chainOf(cost);
        if (i < 0 || i >= chain.size) {
            return refuseAct();
        }
        draft.take(chain);
        draft.remove(i);
        return becomeUnlessTooMuch(cost);
    }

    public int copy(int cost, int other) {
        if (!isCost(cost) || !isCost(other) || cost == other || chainOf(other).hasOnTop(cost)) {
            return refuseAct();
        }
        draft.take(chainOf(other));
        bench.startWith(curveOf(other));
        return become(cost);
    }

    private boolean isTellable(int cost, int kind, int a, int b) {
        if (!isCost(cost) || !isKind(kind) || !areNumbersOf(kind, a, b)) {
            return false;
        }
        return !(kind == AND && a == cost) && chainOf(cost).size < MOST_STEPS;
    }

    private int becomeUnlessTooMuch(int cost) {
        return bench.build(draft) ? become(cost) : refuseAct();
    }

    /** The draft becomes the cost's steps; the bench holds the curve that they make. */
    private int become(int cost) {
        now.act(cost, draft);
        curveOf(cost).take(bench.work);
        return draft.size;
    }

    private int refuseAct() {
        now.refused[REFUSED_ACTS]++;
        return NONE;
    }

    public int undo() {
        int cost = now.takeBack();
        if (cost == NONE) {
            return NONE;
        }
        makeCurve(cost);
        return now.acts;
    }

    /** From steps that have made it before, so that none of them is too much. */
    private void makeCurve(int cost) {
        bench.build(chainOf(cost));
        curveOf(cost).take(bench.work);
    }

    public int note(int x, long v) {
        if (now.notes >= MOST_NOTES || !isX(x)) {
            now.refused[REFUSED_NOTES]++;
            return NONE;
        }
        now.noteXs[now.notes] = x;
        now.noteValues[now.notes] = v;
        now.notes++;
        return now.notes;
    }

    public int fits(int step, int what) throws NoSuchElementException {
        needWeighted(step, what);
        Chain chain = chainOf(0);
        int many = 0;
        int first = NONE;
        bench.standAhead(chain, step);
        for (int weight = 0; weight <= HIGHEST_TRIED_WEIGHT; weight++) {
            if (bench.goThrough(chain, step, weight) && now.holdsNotes(bench.work)) {
                first = many == 0 ? weight : first;
                many++;
            }
        }
        return what == 0 ? many : first;
    }

    public int look(int step, int what) throws NoSuchElementException {
        needWeighted(step, what);
        Chain chain = chainOf(0);
        Arrays.fill(unlike, 0);
        bench.standAhead(chain, step);
        for (int weight = 0; weight <= HIGHEST_TRIED_WEIGHT; weight++) {
            if (bench.goThrough(chain, step, weight) && now.holdsNotes(bench.work)) {
                lookAlong(bench.work);
            }
        }
        int best = 0;
        for (int i = 1; i < unlike.length; i++) {
            best = unlike[i] > unlike[best] ? i : best;
        }
        if (what == 1) {
            return unlike[best];
        }
        return unlike[best] == 0 ? NOWHERE : best - LOOKED_X;
    }

    /** A greater weight never costs less at any place, so that like values come one right behind the other. */
    private void lookAlong(Curve curve) {
        one.startAt(curve, -LOOKED_X);
        for (int i = 0; i < unlike.length && i < lookedValues.length; i++) {
            if (unlike[i] == 0 || lookedValues[i] != one.value) {
                unlike[i]++;
                lookedValues[i] = one.value;
            }
            one.goOn();
        }
    }

    private void needWeighted(int step, int what) {
        needSuch(stepOf(0, step).kind <= UNDER && (what == 0 || what == 1));
    }

    public void forget() {
        now.notes = 0;
    }

    public long years(int seed, int n, int what) throws NoSuchElementException, IllegalArgumentException {
        needSuch(what >= 0 && what <= 2);
        needFit(n >= 0 && n <= MOST_YEARS);
        drawn = seed;
        bench.startWith(curveOf(0));
        for (int year = 0; year < n; year++) {
            liveYear();
        }
        if (what == 0) {
            return bench.work.bottom;
        }
        return what == 1 ? bench.work.kinks : bench.work.valueAt(0);
    }

    private void liveYear() {
        int year = draw(8);
        int kind;
        int first = 0;
        int second = 0;
        if (year <= 3) {
            kind = Math.min(year, UNDER);
            first = draw(101) - 50;
            second = draw(10);
        } else if (year == 4) {
            kind = DRIFT;
            first = draw(21) - 10;
        } else if (year == 5) {
            kind = MOVE;
            first = draw(6);
            second = draw(6);
        } else if (year == 6) {
            kind = RISE;
        } else {
            kind = PLUS;
            first = draw(10);
        }
        bench.applyIfNotTooMuch(kind, first, second);
    }

    private int draw(int n) {
        drawn = drawn * 1103515245 + 12345;
        return n < 1 ? 0 : (drawn >>> 16 & 0x7fff) % n;
    }

    public void image() {
        if (kept == null) {
            kept = new State();
        }
        kept.take(now);
    }

    public boolean restore() {
        if (kept == null) {
            return false;
        }
        now.take(kept);
        for (int cost = 0; cost < COSTS; cost++) {
            makeCurve(cost);
        }
        return true;
    }

    private static boolean isCost(int cost) {
        return cost >= 0 && cost < COSTS;
    }

    private static boolean isKind(int kind) {
        return kind >= 0 && kind < KINDS;
    }

    private static boolean isX(int x) {
        return x >= -FARTHEST_X && x <= FARTHEST_X;
    }

    private static void needSuch(boolean such) {
        if (!such) {
            throw new NoSuchElementException("there is none such");
        }
    }

    private static void needFit(boolean fit) {
        if (!fit) {
            throw new IllegalArgumentException("the number is not as the document wants it");
        }
    }

    private static void needCost(int cost) {
        needSuch(isCost(cost));
    }

    private static void needX(int x) {
        needFit(isX(x));
    }

    private Chain chainOf(int cost) {
        needCost(cost);
        return now.chains[cost];
    }

    private Curve curveOf(int cost) {
        needCost(cost);
        return curves[cost];
    }

    private Step stepOf(int cost, int i) {
        Step step = chainOf(cost).stepAt(i);
        needSuch(step != null);
        return step;
    }

    /** What the step has no number for is kept as 0, whatever was told. */
    private Step newStep(int kind, int a, int b) {
        int first = numbersOf(kind) >= 1 ? a : 0;
        int second = numbersOf(kind) == 2 ? b : 0;
        return new Step(kind, first, second, kind == AND ? shelf.keep(curveOf(first)) : null);
    }

    private static boolean areNumbersOf(int kind, int a, int b) {
        int numbers = numbersOf(kind);
        if (numbers >= 1 && (a < LOWEST_FIRST[kind] || a > HIGHEST_FIRST[kind])) {
            return false;
        }
        return numbers < 2 || (b >= 0 && b <= HIGHEST_SECOND);
    }

    private static int numbersOf(int kind) {
        return isKind(kind) ? NUMBERS[kind] : 0;
    }

    private static String wordOf(int kind) {
        switch (kind) {
            case KINK:
                return "kink";
            case OVER:
                return "over";
            case UNDER:
                return "under";
            case DRIFT:
                return "drift";
            case MOVE:
                return "move";
            case RISE:
                return "rise";
            case FALL:
                return "fall";
            case PLUS:
                return "plus";
            case AND:
                return "and";
            default:
                return "";
        }
    }

    private static int clamp(int x, int from, int to) {
        return Math.min(Math.max(x, from), to);
    }

    private static boolean isFar(int place) {
        return place == FAR || place == -FAR;
    }

    private static int orNowhere(int place) {
        return isFar(place) ? NOWHERE : place;
    }

    /**
     * A convex cost that has a least value. Of its weight the first units, from the left, make it fall and all
     * others make it rise: this and the least value tell all of it.
     */
    private static final class Curve {
        private static final int FIRST_ROOM = 48;
        private static final int SECOND_ROOM = 480;
        /** A kink weighs at least 1, and a move may part one of them. */
        private static final int WHOLE_ROOM = MOST_WEIGHT + 1;
        /** Enough for all weights together. */
        private static final int WEIGHT_BITS = 13;
        private static final int WEIGHT_MASK = (1 << WEIGHT_BITS) - 1;

        int kinks;
        /** Of each kink its place and, in the lowest bits, its weight. */
        private int[] row;
        /** How many units of weight make it fall: on the far left its slope is this below 0. */
        int left;
        int total;
        long bottom;

        Curve() {
            row = new int[0];
            kinks = 0;
            left = 0;
            total = 0;
            bottom = 0;
        }

        /** Nothing but 0 is left, with room for so many kinks; few rooms, as each makes a new row. */
        void clear(int room) {
            if (room > row.length) {
                int more = room > FIRST_ROOM ? SECOND_ROOM : FIRST_ROOM;
                row = new int[room > more ? WHOLE_ROOM : more];
            }
            kinks = 0;
            left = 0;
            total = 0;
            bottom = 0;
        }

        /** The row may hold more, of what it was used for before: 0 for what is no kink now. */
        int placeOf(int i) {
            return i >= 0 && i < kinks && i < row.length ? row[i] >> WEIGHT_BITS : 0;
        }

        int weightOf(int i) {
            return i >= 0 && i < kinks && i < row.length ? row[i] & WEIGHT_MASK : 0;
        }

        /** Places must come rising; like ones become one kink. */
        void append(int place, int weight) {
            if (weight <= 0) {
                return;
            }
            if (kinks > 0 && kinks <= row.length && placeOf(kinks - 1) == place) {
                row[kinks - 1] += weight;
                total += weight;
            } else if (kinks < row.length) {
                row[kinks] = (place << WEIGHT_BITS) + weight;
                kinks++;
                total += weight;
            }
        }

        void becomeKink(int place, int weight, int falling) {
            clear(1);
            append(place, weight);
            left = falling;
        }

        void take(Curve other) {
            clear(other.kinks);
            kinks = Math.min(other.kinks, Math.min(other.row.length, row.length));
            System.arraycopy(other.row, 0, row, 0, kinks);
            left = other.left;
            total = other.total;
            bottom = other.bottom;
        }

        long valueAt(int x) {
            long value = bottom;
            int falling = left;
            for (int i = 0; i < kinks; i++) {
                int weight = weightOf(i);
                int share = Math.min(falling, weight);
                falling -= share;
                long above = (long) x - placeOf(i);
                value += above < 0 ? -above * share : above * (weight - share);
            }
            return value;
        }

        /** The slope from x to the place behind it. */
        int slopeBehind(int x) {
            int slope = -left;
            for (int i = 0; i < kinks && placeOf(i) <= x; i++) {
                slope += weightOf(i);
            }
            return slope;
        }

        int kinksUpTo(int x) {
            int many = 0;
            while (many < kinks && placeOf(many) <= x) {
                many++;
            }
            return many;
        }

        /** Where the unit of weight lies, counted from 1 on the left; FAR away on its side where there is none. */
        private int placeOfUnit(int unit) {
            if (unit < 1) {
                return -FAR;
            }
            int rest = unit;
            for (int i = 0; i < kinks; i++) {
                rest -= weightOf(i);
                if (rest <= 0) {
                    return placeOf(i);
                }
            }
            return FAR;
        }

        /** The least place from which on it goes by this slope or a higher one. */
        int lowEnd(int slope) {
            return placeOfUnit(left + slope);
        }

        /** The greatest place up to which it goes by this slope or a lower one. */
        int highEnd(int slope) {
            return placeOfUnit(left + slope + 1);
        }

        int nearestToZero(int slope) {
            return clamp(0, lowEnd(slope), highEnd(slope));
        }

        /** A place where it is least, found by its kinks alone: what it costs there may not be known yet. */
        int someLowest() {
            int rest = left;
            for (int i = 0; i < kinks; i++) {
                rest -= weightOf(i);
                if (rest <= 0) {
                    return placeOf(i);
                }
            }
            return 0;
        }

        boolean isTooMuch() {
            if (total > MOST_WEIGHT || bottom > MOST_LEAST) {
                return true;
            }
            return kinks > 0 && (placeOf(0) < -FARTHEST_KINK || placeOf(kinks - 1) > FARTHEST_KINK);
        }

        boolean isSameAs(Curve other) {
            if (kinks != other.kinks || left != other.left || bottom != other.bottom) {
                return false;
            }
            for (int i = 0; i < kinks; i++) {
                if (placeOf(i) != other.placeOf(i) || weightOf(i) != other.weightOf(i)) {
                    return false;
                }
            }
            return true;
        }
    }

    /** Goes along a curve place by place, without a new sum over all kinks at each. */
    private static final class Walk {
        private Curve curve;
        private int x;
        private int slope;
        private int passed;
        long value;

        Walk(Curve curve) {
            this.curve = curve;
        }

        void startAt(Curve along, int from) {
            curve = along;
            x = from;
            slope = curve.slopeBehind(x);
            passed = curve.kinksUpTo(x);
            value = curve.valueAt(x);
        }

        void goOn() {
            value += slope;
            x++;
            if (passed < curve.kinks && curve.placeOf(passed) == x) {
                slope += curve.weightOf(passed);
                passed++;
            }
        }
    }

    /**
     * A curve that never changes, in few elements: from its first kink on a bit 1 for each unit of weight, and a bit
     * 0 for each place by which one goes on.
     */
    private static final class Keepsake {
        private final int kinks;
        private final int first;
        private final int left;
        private final long bottom;
        final long[] bits;
        /** The one that was made before this one; null for the first. */
        final Keepsake older;

        Keepsake(Curve curve, long[] bits, Keepsake older) {
            kinks = curve.kinks;
            first = curve.placeOf(0);
            left = curve.left;
            bottom = curve.bottom;
            this.bits = bits;
            this.older = older;
        }

        /** Whether it is this curve, if its bits are. */
        boolean isBeside(Curve curve) {
            return first == curve.placeOf(0) && left == curve.left && bottom == curve.bottom;
        }

        void showOn(Curve curve) {
            curve.clear(kinks);
            int place = first;
            for (int i = 0; i < bits.length; i++) {
                long word = bits[i];
                for (int bit = 0; bit < Shelf.WORD_BITS && word != 0; bit++) {
                    if ((word >>> bit & 1) == 1) {
                        curve.append(place, 1);
                    } else {
                        place++;
                    }
                }
                place += word == 0 ? Shelf.WORD_BITS : 0;
            }
            curve.left = left;
            curve.bottom = bottom;
        }
    }

    /** Makes keepsakes. Of like ones there is one, and what differs by a drift or a plus alone has one row of bits. */
    private static final class Shelf {
        static final int WORD_BITS = 64;
        private static final int MOST_BITS = 2 * FARTHEST_KINK + MOST_WEIGHT;
        private static final int MOST_WORDS = (MOST_BITS + WORD_BITS - 1) / WORD_BITS;

        private long[] written;
        private int words;
        private Keepsake newest;

        Shelf() {
            written = new long[0];
            words = 0;
            newest = null;
        }

        Keepsake keep(Curve curve) {
            write(curve);
            long[] bits = null;
            for (Keepsake made = newest; made != null; made = made.older) {
                if (isWritten(made.bits)) {
                    if (made.isBeside(curve)) {
                        return made;
                    }
                    bits = made.bits;
                }
            }
            newest = new Keepsake(curve, bits == null ? Arrays.copyOf(written, words) : bits, newest);
            return newest;
        }

        private void write(Curve curve) {
            if (written.length < MOST_WORDS) {
                written = new long[MOST_WORDS];
            }
            Arrays.fill(written, 0);
            int at = 0;
            for (int i = 0; i < curve.kinks; i++) {
                at += i == 0 ? 0 : curve.placeOf(i) - curve.placeOf(i - 1);
                writeUnits(at, curve.weightOf(i));
                at += curve.weightOf(i);
            }
            words = Math.min((at + WORD_BITS - 1) / WORD_BITS, written.length);
        }

        private void writeUnits(int from, int many) {
            for (int at = from; at < from + many; at++) {
                int word = at / WORD_BITS;
                if (word >= 0 && word < written.length) {
                    written[word] |= 1L << at % WORD_BITS;
                }
            }
        }

        private boolean isWritten(long[] bits) {
            if (bits.length != words) {
                return false;
            }
            for (int i = 0; i < words; i++) {
                if (bits[i] != written[i]) {
                    return false;
                }
            }
            return true;
        }
    }

    private static final class Step {
        final int kind;
        final int first;
        final int second;
        /** Of 'and' the other cost as it was when this was told; null for all other kinds. */
        final Keepsake onTop;

        Step(int kind, int first, int second, Keepsake onTop) {
            this.kind = kind;
            this.first = first;
            this.second = second;
            this.onTop = onTop;
        }
    }

    /** A row of steps, made once and used again: one chain takes from another what never changes, the steps. */
    private static final class Chain {
        private Step[] steps;
        int size;

        Chain() {
            steps = new Step[0];
            size = 0;
        }

        /** Null, if there is none. */
        Step stepAt(int i) {
            return i >= 0 && i < size && i < steps.length ? steps[i] : null;
        }

        void clear() {
            size = 0;
        }

        void take(Chain other) {
            makeRoom(other.size);
            size = Math.min(other.size, steps.length);
            for (int i = 0; i < size; i++) {
                steps[i] = other.stepAt(i);
            }
        }

        void insert(int place, Step step) {
            makeRoom(size + 1);
            if (place < 0 || place > size || size >= steps.length) {
                return;
            }
            for (int i = size; i > place; i--) {
                steps[i] = steps[i - 1];
            }
            steps[place] = step;
            size++;
        }

        void remove(int place) {
            if (place < 0 || place >= size) {
                return;
            }
            size--;
            for (int i = place; i < size && i + 1 < steps.length; i++) {
                steps[i] = steps[i + 1];
            }
        }

        private void makeRoom(int room) {
            if (room <= steps.length || steps.length >= MOST_STEPS) {
                return;
            }
            Step[] more = new Step[MOST_STEPS];
            for (int i = 0; i < size && i < steps.length; i++) {
                more[i] = steps[i];
            }
            steps = more;
        }

        boolean hasOnTop(int cost) {
            for (int i = 0; i < size; i++) {
                Step step = stepAt(i);
                if (step != null && step.kind == AND && step.first == cost) {
                    return true;
                }
            }
            return false;
        }
    }

    /** The way back through the steps of a chain. */
    private static final class Trail {
        private Chain chain;
        /** Ahead of each step the ends of the flat: of all that was there, a path needs no more. */
        private final int[] flatFrom;
        private final int[] flatTo;

        Trail() {
            chain = new Chain();
            flatFrom = new int[MOST_STEPS];
            flatTo = new int[MOST_STEPS];
        }

        void lay(Chain along, Bench bench) {
            chain = along;
            bench.startAnew();
            for (int i = 0; i < chain.size && i < MOST_STEPS; i++) {
                flatFrom[i] = bench.work.lowEnd(0);
                flatTo[i] = bench.work.highEnd(0);
                bench.applyStep(chain.stepAt(i));
            }
        }

        /** Where one was ahead of the i-th step, if one is at x behind it. */
        private int placeAhead(int i, int x) {
            Step step = chain.stepAt(i);
            if (step == null || i < 0 || i >= MOST_STEPS) {
                return x;
            }
            switch (step.kind) {
                case DRIFT:
                    return x - step.first;
                case MOVE:
                    return clamp(clamp(x, flatFrom[i], flatTo[i]), x - step.second, x + step.first);
                case RISE:
                    return Math.min(x, flatTo[i]);
                case FALL:
                    return Math.max(x, flatFrom[i]);
                default:
                    return x;
            }
        }

        int placeBehind(int many, int end) {
            int x = end;
            for (int i = chain.size - 1; i >= 0 && i >= many; i--) {
                x = placeAhead(i, x);
            }
            return x;
        }

        int wayTo(int end) {
            int way = 0;
            int x = end;
            for (int i = chain.size - 1; i >= 0; i--) {
                int ahead = placeAhead(i, x);
                way += Math.abs(x - ahead);
                x = ahead;
            }
            return way;
        }
    }

    /** Where curves are made, step by step, in rows that are used again for each. */
    private static final class Bench {
        Curve work;
        private Curve spare;
        private final Curve base;
        private final Curve added;
        /** The step by which the latest chain that was to be built would have been too much. */
        int failed;

        Bench() {
            work = new Curve();
            spare = new Curve();
            base = new Curve();
            added = new Curve();
            failed = NONE;
        }

        void startAnew() {
            work.clear(0);
        }

        void startWith(Curve curve) {
            work.take(curve);
        }

        /** False, if a step would be too much. */
        boolean build(Chain chain) {
            failed = NONE;
            startAnew();
            for (int i = 0; i < chain.size; i++) {
                if (!applyStep(chain.stepAt(i))) {
                    failed = i;
                    return false;
                }
            }
            return true;
        }

        /** The base becomes what was ahead of the step. */
        void standAhead(Chain chain, int step) {
            startAnew();
            for (int i = 0; i < step && i < chain.size; i++) {
                applyStep(chain.stepAt(i));
            }
            base.take(work);
        }

        /** From the base on through the step, with this weight or LEFT_OUT, and all others; false: too much. */
        boolean goThrough(Chain chain, int step, int weight) {
            work.take(base);
            Step changed = chain.stepAt(step);
            if (changed == null) {
                return false;
            }
            if (weight != LEFT_OUT && !apply(changed.kind, changed.first, weight, null)) {
                return false;
            }
            for (int i = step + 1; i < chain.size; i++) {
                if (!applyStep(chain.stepAt(i))) {
                    return false;
                }
            }
            return true;
        }

        /** What the step adds at x. */
        long costBy(Step step, int x) {
            switch (step.kind) {
                case KINK:
                    return (long) step.second * Math.abs(x - step.first);
                case OVER:
                    return (long) step.second * Math.max(x - step.first, 0);
                case UNDER:
                    return (long) step.second * Math.max(step.first - x, 0);
                case PLUS:
                    return step.first;
                case AND:
                    return costOnTop(step.onTop, x);
                default:
                    return 0;
            }
        }

        private long costOnTop(Keepsake onTop, int x) {
            if (onTop == null) {
                return 0;
            }
            onTop.showOn(added);
            return added.valueAt(x);
        }

        void applyIfNotTooMuch(int kind, int first, int second) {
            base.take(work);
            if (!apply(kind, first, second, null)) {
                work.take(base);
            }
        }

        /** False, if it is too much; what the work is then is of no use. */
        boolean applyStep(Step step) {
            return step != null && apply(step.kind, step.first, step.second, step.onTop);
        }

        private boolean apply(int kind, int first, int second, Keepsake onTop) {
            switch (kind) {
                case KINK:
                    added.becomeKink(first, 2 * second, second);
                    return add();
                case OVER:
                    added.becomeKink(first, second, 0);
                    return add();
                case UNDER:
                    added.becomeKink(first, second, second);
                    return add();
                case DRIFT:
                    reshape(true, true, -first, first);
                    break;
                case MOVE:
                    reshape(true, true, first, second);
                    break;
                case RISE:
                    reshape(true, false, 0, 0);
                    break;
                case FALL:
                    reshape(false, true, 0, 0);
                    break;
                case PLUS:
                    work.bottom += first;
                    break;
                case AND:
                    if (onTop != null) {
                        onTop.showOn(added);
                        return add();
                    }
                    break;
                default:
                    break;
            }
            return !work.isTooMuch();
        }

        private boolean add() {
            if (work.total + added.total > MOST_WEIGHT) {
                return false;
            }
            int all = work.kinks + added.kinks;
            spare.clear(all);
            int mine = 0;
            int its = 0;
            for (int k = 0; k < all; k++) {
                if (its >= added.kinks || (mine < work.kinks && work.placeOf(mine) <= added.placeOf(its))) {
                    spare.append(work.placeOf(mine), work.weightOf(mine));
                    mine++;
                } else {
                    spare.append(added.placeOf(its), added.weightOf(its));
                    its++;
                }
            }
            spare.left = work.left + added.left;
            int lowest = spare.someLowest();
            spare.bottom = work.valueAt(lowest) + added.valueAt(lowest);
            swap();
            return !work.isTooMuch();
        }

        /** The falling part stays or goes, and goes down by so much; the rising part likewise up. */
        private void reshape(boolean keepsFalling, boolean keepsRising, int down, int up) {
            spare.clear(work.kinks + 1);
            int falling = work.left;
            for (int i = 0; i < work.kinks; i++) {
                int share = Math.min(falling, work.weightOf(i));
                falling -= share;
                spare.append(work.placeOf(i) - down, keepsFalling ? share : 0);
                spare.append(work.placeOf(i) + up, keepsRising ? work.weightOf(i) - share : 0);
            }
            spare.left = keepsFalling ? work.left : 0;
            spare.bottom = work.bottom;
            swap();
        }

        private void swap() {
            Curve made = spare;
            spare = work;
            work = made;
        }
    }

    /** Reads a text's clauses up to its first fault; whether the steps are too much is not its matter. */
    private static final class Reader {
        private static final int END = 0;
        private static final int WORD = 1;
        private static final int NUMBER = 2;
        private static final int SIGN = 3;
        private static final int STRANGE = 4;
        private static final int MOST_DIGITS = 3;

        final int[] kinds;
        final int[] firsts;
        final int[] seconds;
        private final int[] words;
        int clauses;
        int fault;
        int faultAt;
        private byte[] bytes;
        private int length;
        private int cost;
        private int token;
        private int tokenAt;
        private int tokenEnd;

        Reader() {
            kinds = new int[MOST_STEPS];
            firsts = new int[MOST_STEPS];
            seconds = new int[MOST_STEPS];
            words = new int[MOST_STEPS];
            bytes = new byte[0];
        }

        int wordPlace(int clause) {
            return clause >= 0 && clause < words.length ? words[clause] : NONE;
        }

        void read(byte[] text, int size, int toldCost) {
            bytes = text;
            length = Math.min(size, text.length);
            cost = toldCost;
            clauses = 0;
            fault = 0;
            faultAt = NONE;
            tokenEnd = 0;
            for (int round = 0; round <= MOST_STEPS && fault == 0; round++) {
                nextToken();
                if (token == END) {
                    return;
                }
                readClause();
            }
        }

        private void readClause() {
            int kind = token == WORD ? kindOfToken() : NONE;
            if (kind == NONE) {
                fail(CANT_STAND);
                return;
            }
            if (clauses >= MOST_STEPS) {
                fail(ONE_TOO_MANY);
                return;
            }
            words[clauses] = tokenAt;
            kinds[clauses] = kind;
            firsts[clauses] = readFirst(kind);
            seconds[clauses] = numbersOf(kind) == 2 && fault == 0 ? readNumber(false, HIGHEST_SECOND) : 0;
            if (fault != 0) {
                return;
            }
            nextToken();
            if (!isSign(';')) {
                fail(CANT_STAND);
                return;
            }
            clauses++;
        }

        private int readFirst(int kind) {
            if (numbersOf(kind) == 0) {
                return 0;
            }
            int number = readNumber(LOWEST_FIRST[kind] < 0, HIGHEST_FIRST[kind]);
            if (fault == 0 && kind == AND && number == cost) {
                fail(ONE_TOO_MANY);
            }
            return number;
        }

        private int readNumber(boolean mayBeBelowZero, int highest) {
            nextToken();
            boolean below = mayBeBelowZero && isSign('-');
            if (below) {
                nextToken();
            }
            if (token != NUMBER) {
                fail(CANT_STAND);
                return 0;
            }
            int number = numberOfToken();
            if (number > highest) {
                fail(NOT_AS_TOLD);
                return 0;
            }
            return below ? -number : number;
        }

        /** Of more digits than a number may have it is above all that may be told. */
        private int numberOfToken() {
            if (tokenEnd - tokenAt > MOST_DIGITS) {
                return FAR;
            }
            int number = 0;
            for (int i = tokenAt; i < tokenEnd; i++) {
                number = 10 * number + byteAt(i) - '0';
            }
            return number;
        }

        private void fail(int what) {
            fault = what;
            faultAt = tokenAt;
        }

        private int kindOfToken() {
            for (int kind = 0; kind < KINDS; kind++) {
                if (isTokenWord(wordOf(kind))) {
                    return kind;
                }
            }
            return NONE;
        }

        private boolean isTokenWord(String word) {
            if (word.length() != tokenEnd - tokenAt) {
                return false;
            }
            for (int i = 0; i < word.length(); i++) {
                if (word.charAt(i) != byteAt(tokenAt + i)) {
                    return false;
                }
            }
            return true;
        }

        private boolean isSign(int sign) {
            return token == SIGN && byteAt(tokenAt) == sign;
        }

        /** A byte behind the end is like no sign at all. */
        private int byteAt(int i) {
            return i >= 0 && i < length && i < bytes.length ? bytes[i] : NONE;
        }

        private void nextToken() {
            tokenAt = tokenEnd;
            while (tokenAt < length && isBlank(byteAt(tokenAt))) {
                tokenAt++;
            }
            tokenEnd = tokenAt;
            if (tokenAt >= length) {
                token = END;
                return;
            }
            token = tokenKind(byteAt(tokenAt));
            tokenEnd++;
            if (token == WORD || token == NUMBER) {
                while (tokenEnd < length && tokenKind(byteAt(tokenEnd)) == token) {
                    tokenEnd++;
                }
            }
        }

        private static boolean isBlank(int sign) {
            return sign == 32 || sign == 10;
        }

        private static int tokenKind(int sign) {
            if (sign >= 'a' && sign <= 'z') {
                return WORD;
            }
            if (sign >= '0' && sign <= '9') {
                return NUMBER;
            }
            return sign == ';' || sign == '-' ? SIGN : STRANGE;
        }
    }

    /** Tells steps as a text, of which it keeps no more than its length and the one byte that was asked for. */
    private static final class Teller {
        private int wanted;
        int length;
        int heard;

        void listenFor(int place) {
            wanted = place;
            length = 0;
            heard = 0;
        }

        void putStep(Step step) {
            if (step == null) {
                return;
            }
            String word = wordOf(step.kind);
            for (int i = 0; i < word.length(); i++) {
                put(word.charAt(i));
            }
            if (numbersOf(step.kind) >= 1) {
                putNumber(step.first);
            }
            if (numbersOf(step.kind) == 2) {
                putNumber(step.second);
            }
            put(';');
        }

        private void putNumber(int number) {
            put(' ');
            if (number < 0) {
                put('-');
            }
            int rest = Math.abs(number);
            if (rest >= 100) {
                put('0' + rest / 100);
            }
            if (rest >= 10) {
                put('0' + rest / 10 % 10);
            }
            put('0' + rest % 10);
        }

        private void put(int sign) {
            if (length == wanted) {
                heard = sign;
            }
            length++;
        }
    }

    /** All that an image keeps. */
    private static final class State {
        final Chain[] chains;
        private final int[] actCosts;
        private final Chain[] actChains;
        int acts;
        final int[] noteXs;
        final long[] noteValues;
        int notes;
        final int[] refused;

        State() {
            chains = new Chain[COSTS];
            for (int cost = 0; cost < COSTS; cost++) {
                chains[cost] = new Chain();
            }
            actCosts = new int[MOST_ACTS];
            actChains = new Chain[MOST_ACTS];
            acts = 0;
            noteXs = new int[MOST_NOTES];
            noteValues = new long[MOST_NOTES];
            notes = 0;
            refused = new int[3];
        }

        void act(int cost, Chain chain) {
            if (!isCost(cost)) {
                return;
            }
            if (acts >= MOST_ACTS) {
                dropOldestAct();
            }
            actCosts[acts] = cost;
            actChain(acts).take(chains[cost]);
            acts++;
            chains[cost].take(chain);
        }

        /** Most runs have few acts, so that a chain is made when it is first needed. */
        private Chain actChain(int act) {
            if (actChains[act] == null) {
                actChains[act] = new Chain();
            }
            return actChains[act];
        }

        /** Its chain goes to the end, to be used again there. */
        private void dropOldestAct() {
            Chain dropped = actChain(0);
            for (int i = 1; i < MOST_ACTS; i++) {
                actCosts[i - 1] = actCosts[i];
                actChains[i - 1] = actChains[i];
            }
            actChains[MOST_ACTS - 1] = dropped;
            acts = MOST_ACTS - 1;
        }

        /** The cost whose latest act is undone; NONE without any act. */
        int takeBack() {
            if (acts <= 0 || acts > MOST_ACTS || !isCost(actCosts[acts - 1])) {
                return NONE;
            }
            acts--;
            int cost = actCosts[acts];
            chains[cost].take(actChain(acts));
            return cost;
        }

        boolean holdsNotes(Curve curve) {
            for (int i = 0; i < notes && i < MOST_NOTES; i++) {
                if (curve.valueAt(noteXs[i]) != noteValues[i]) {
                    return false;
                }
            }
            return true;
        }

        void take(State other) {
            for (int cost = 0; cost < COSTS; cost++) {
                chains[cost].take(other.chains[cost]);
            }
            for (int i = 0; i < other.acts && i < MOST_ACTS; i++) {
                actCosts[i] = other.actCosts[i];
                actChain(i).take(other.actChain(i));
            }
            acts = other.acts;
            for (int i = 0; i < MOST_NOTES; i++) {
                noteXs[i] = other.noteXs[i];
                noteValues[i] = other.noteValues[i];
            }
            notes = other.notes;
            for (int i = 0; i < refused.length; i++) {
                refused[i] = other.refused[i];
            }
        }
    }
}
