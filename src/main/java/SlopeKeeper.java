import java.util.Arrays;
import java.util.NoSuchElementException;

/**
 * A keeper of convex costs. Each of four costs is a chain of steps; the curve that the steps make is kept by its
 * kinks, so that an answer never needs to go through all places.
 */
public final class SlopeKeeper {
    public static final int NONE = -1;
    public static final int NOWHERE = -10000000;

    private static final int COSTS = 4;
    private static final int MOST_STEPS = 40;
    private static final int MOST_ACTS = 40;
    private static final int MOST_NOTES = 8;
    private static final int TAPE_ROOM = 600;
    private static final int FED_BYTES = 20;

    private static final int FARTHEST_X = 100000;
    private static final int FARTHEST_KINK = 5000;
    private static final int MOST_WEIGHT = 5000;
    private static final long MOST_LEAST = 100000000L;
    private static final int MOST_OFF = 1000000;
    private static final int STEEPEST_AGAINST = 200;
    private static final int HIGHEST_TRIED_WEIGHT = 40;
    private static final int COMPARED_X = 500;
    private static final int MEETING_X = 1000;
    private static final int LOOKED_X = 20;
    private static final int MOST_YEARS = 20;
    private static final long NOT_SPARED = -1000000000L;
    /** Stands for a place without bound; sums of four of them still fit a long, sums of two an int. */
    private static final int FAR = 1000000000;
    /** In place of a weight: the step is to be left out. */
    private static final int LEFT_OUT = -1;

    private static final int KINK = 0;
    private static final int OVER = 1;
    private static final int UNDER = 2;
    private static final int DRIFT = 3;
    private static final int MOVE = 4;
    private static final int RISE = 5;
    private static final int FALL = 6;
    private static final int PLUS = 7;
    private static final int AND = 8;
    private static final int KINDS = 9;

    private static final int[] NUMBERS = {2, 2, 2, 1, 2, 0, 0, 1, 1};
    private static final int[] LOWEST_FIRST = {-500, -500, -500, -500, 0, 0, 0, 0, 0};
    private static final int[] HIGHEST_FIRST = {500, 500, 500, 500, 99, 0, 0, 999, 3};
    private static final int HIGHEST_SECOND = 99;

    private static final int CANT_STAND = 1;
    private static final int NOT_AS_TOLD = 2;
    private static final int ONE_TOO_MANY = 3;
    private static final int WOULD_BE_TOO_MUCH = 4;

    private static final int REFUSED_TEXTS = 0;
    private static final int REFUSED_ACTS = 1;
    private static final int REFUSED_NOTES = 2;

    private final byte[] tape;
    private int tapeSize;
    private int faultPlace;
    private final Reader reader;
    private final Bench bench;
    private final StringBuilder teller;
    private final Curve[] team;
    private final long[] lookedValues;
    private final int[] unlike;
    private final State now;
    private State kept;

    public SlopeKeeper() {
        tape = new byte[TAPE_ROOM];
        tapeSize = 0;
        faultPlace = NONE;
        reader = new Reader();
        bench = new Bench();
        teller = new StringBuilder();
        team = new Curve[COSTS];
        lookedValues = new long[2 * LOOKED_X + 1];
        unlike = new int[2 * LOOKED_X + 1];
        now = new State();
        kept = null;
    }

    public int feed(int a, int b, int c, int d, int e) {
        if (tapeSize + FED_BYTES > TAPE_ROOM) {
            return NONE;
        }
        feedFour(a);
        feedFour(b);
        feedFour(c);
        feedFour(d);
        feedFour(e);
        return tapeSize;
    }

    private void feedFour(int four) {
        for (int shift = 24; shift >= 0; shift -= 8) {
            if (tapeSize < tape.length) {
                tape[tapeSize] = (byte) (four >>> shift);
                tapeSize++;
            }
        }
    }

    public int text(int cost, int n) throws NoSuchElementException, IllegalArgumentException {
        needCost(cost);
        needFit(n >= 0 && n <= tapeSize);
        tapeSize = 0;
        reader.read(tape, n, cost);
        if (reader.fault != 0) {
            return refuseText(reader.fault, reader.faultAt);
        }
        Chain chain = bench.build(readSteps());
        if (chain == null) {
            return refuseText(WOULD_BE_TOO_MUCH, reader.wordPlace(bench.failed));
        }
        faultPlace = NONE;
        now.act(cost, chain);
        return 0;
    }

    private int refuseText(int fault, int place) {
        faultPlace = place;
        now.refused[REFUSED_TEXTS]++;
        return fault;
    }

    private Step[] readSteps() {
        Step[] steps = new Step[reader.clauses];
        for (int i = 0; i < steps.length; i++) {
            steps[i] = newStep(reader.kinds[i], reader.firsts[i], reader.seconds[i]);
        }
        return steps;
    }

    public int fault() {
        return faultPlace;
    }

    public int count(int what) throws NoSuchElementException {
        switch (what) {
            case 0:
            case 1:
            case 2:
            case 3:
                return chainOf(what).size();
            case 4:
                return now.acts;
            case 5:
                return now.notes;
            case 6:
                return tapeSize;
            case 7:
                return now.refused[REFUSED_TEXTS];
            case 8:
                return now.refused[REFUSED_ACTS];
            case 9:
                return now.refused[REFUSED_NOTES];
            default:
                throw new NoSuchElementException("nothing such is counted");
        }
    }

    public int step(int cost, int i, int what) throws NoSuchElementException {
        Step step = stepOf(cost, i);
        needSuch(what >= 0 && what <= 2);
        if (what == 0) {
            return step.kind;
        }
        return what == 1 ? step.first : step.second;
    }

    public long at(int cost, int x) throws NoSuchElementException, IllegalArgumentException {
        Curve curve = curveOf(cost);
        needX(x);
        return curve.valueAt(x);
    }

    public long least(int cost) throws NoSuchElementException {
        return curveOf(cost).bottom;
    }

    public int flat(int cost, int what) throws NoSuchElementException {
        Curve curve = curveOf(cost);
        switch (what) {
            case 0:
                return orNowhere(curve.lowEnd(0));
            case 1:
                return orNowhere(curve.highEnd(0));
            case 2:
                return curve.nearestToZero(0);
            case 3:
                return curve.kinks;
            case 4:
                return curve.total;
            default:
                throw new NoSuchElementException("a flat has nothing such");
        }
    }

    public int kink(int cost, int i, int what) throws NoSuchElementException {
        Curve curve = curveOf(cost);
        needSuch(i >= 0 && i < curve.kinks && (what == 0 || what == 1));
        return what == 0 ? curve.places[i] : curve.weights[i];
    }

    public int slope(int cost, int x, int what) throws NoSuchElementException, IllegalArgumentException {
        Curve curve = curveOf(cost);
        needSuch(what == 0 || what == 1);
        needX(x);
        return curve.slopeBehind(what == 0 ? x - 1 : x);
    }

    public int path(int cost, int x, int steps) throws NoSuchElementException, IllegalArgumentException {
        Chain chain = chainOf(cost);
        needSuch(steps >= 0 && steps <= chain.size());
        needX(x);
        return chain.placeBehind(steps, x);
    }

    public long paid(int cost, int x, int i) throws NoSuchElementException, IllegalArgumentException {
        Step step = stepOf(cost, i);
        needX(x);
        return step.costAt(chainOf(cost).placeBehind(i + 1, x));
    }

    public int off(int cost, int much, int what) throws NoSuchElementException, IllegalArgumentException {
        Curve curve = curveOf(cost);
        needSuch(what == 0 || what == 1);
        needFit(much >= 0 && much <= MOST_OFF);
        int start = what == 0 ? curve.lowEnd(0) : curve.highEnd(0);
        int sign = what == 0 ? -1 : 1;
        if (isFar(start)) {
            return NOWHERE;
        }
        return start + sign * farthestWithin(curve, start, sign, much);
    }

    /** Beyond the flat each place costs at least 1 more, so that nobody can be off farther than by so much. */
    private static int farthestWithin(Curve curve, int start, int sign, int much) {
        int low = 0;
        int high = much;
        for (int round = 0; round < 32 && low < high; round++) {
            int middle = (low + high + 1) / 2;
            if (curve.valueAt(start + sign * middle) - curve.bottom <= much) {
                low = middle;
            } else {
                high = middle - 1;
            }
        }
        return low;
    }

    public long split(int cost, int other, int x) throws NoSuchElementException, IllegalArgumentException {
        gatherTwo(cost, other);
        needX(x);
        return sharedValue(2, x);
    }

    public int where(int cost, int other, int x) throws NoSuchElementException, IllegalArgumentException {
        gatherTwo(cost, other);
        needX(x);
        int slope = commonSlope(2, x);
        Curve one = team[0];
        Curve two = team[1];
        int from = Math.max(one.lowEnd(slope), x - two.highEnd(slope));
        int to = Math.min(one.highEnd(slope), x - two.lowEnd(slope));
        return clamp(0, from, to);
    }

    private void gatherTwo(int cost, int other) {
        needCost(cost);
        needCost(other);
        team[0] = curveOf(cost);
        team[1] = curveOf(other);
    }

    public long shared(int set, int x) throws IllegalArgumentException {
        needFit(set >= 1 && set <= 15);
        needX(x);
        int members = 0;
        for (int cost = 0; cost < COSTS; cost++) {
            if ((set >> cost & 1) == 1) {
                team[members] = curveOf(cost);
                members++;
            }
        }
        return sharedValue(members, x);
    }

    /** Where the sum is least all curves have one slope; along it each may stand at any of its places. */
    private long sharedValue(int members, int x) {
        long slope = commonSlope(members, x);
        long value = slope * x;
        for (int i = 0; i < members && i < team.length; i++) {
            int place = team[i].nearestToZero((int) slope);
            value += team[i].valueAt(place) - slope * place;
        }
        return value;
    }

    /** The lowest slope at whose high ends the team's first curves reach x together. */
    private int commonSlope(int members, int x) {
        int low = -MOST_WEIGHT;
        int high = MOST_WEIGHT;
        for (int i = 0; i < members && i < team.length; i++) {
            low = Math.max(low, -team[i].left);
            high = Math.min(high, team[i].total - team[i].left);
        }
        for (int round = 0; round < 32 && low < high; round++) {
            int middle = Math.floorDiv(low + high, 2);
            if (highEndsTogether(members, middle) >= x) {
                high = middle;
            } else {
                low = middle + 1;
            }
        }
        return low;
    }

    private long highEndsTogether(int members, int slope) {
        long sum = 0;
        for (int i = 0; i < members && i < team.length; i++) {
            sum += team[i].highEnd(slope);
        }
        return sum;
    }

    public int stretch(int cost, int x) throws NoSuchElementException, IllegalArgumentException {
        Chain chain = chainOf(cost);
        needX(x);
        return chain.wayTo(x);
    }

    public int leads(int cost, int other, int what) throws NoSuchElementException {
        Walk one = new Walk(curveOf(cost), -COMPARED_X);
        Walk two = new Walk(curveOf(other), -COMPARED_X);
        needSuch(what == 0 || what == 1);
        int many = 0;
        int first = NOWHERE;
        for (int x = -COMPARED_X; x <= COMPARED_X; x++) {
            if (one.value < two.value) {
                first = many == 0 ? x : first;
                many++;
            }
            one.goOn();
            two.goOn();
        }
        return what == 0 ? many : first;
    }

    public long against(int cost, int slope, int what) throws NoSuchElementException, IllegalArgumentException {
        Curve curve = curveOf(cost);
        needSuch(what == 0 || what == 1);
        needFit(slope >= -STEEPEST_AGAINST && slope <= STEEPEST_AGAINST);
        if (slope < -curve.left || slope > curve.total - curve.left) {
            return NOWHERE;
        }
        int place = curve.nearestToZero(slope);
        return what == 0 ? (long) slope * place - curve.valueAt(place) : place;
    }

    public int meet(int cost, int other) throws NoSuchElementException {
        Walk one = new Walk(curveOf(cost), -MEETING_X);
        Walk two = new Walk(curveOf(other), -MEETING_X);
        int nearest = NOWHERE;
        for (int x = -MEETING_X; x <= MEETING_X; x++) {
            if (one.value == two.value && Math.abs(x) < Math.abs(nearest)) {
                nearest = x;
            }
            one.goOn();
            two.goOn();
        }
        return nearest;
    }

    public int heaviest(int cost, int step, int much) throws NoSuchElementException, IllegalArgumentException {
        needSuch(stepOf(cost, step).kind <= UNDER);
        needFit(much >= 0 && much <= MOST_LEAST);
        Chain chain = chainOf(cost);
        bench.standAhead(chain, step);
        for (int weight = HIGHEST_TRIED_WEIGHT; weight >= 0; weight--) {
            if (bench.goThrough(chain, step, weight) && bench.work.bottom <= much) {
                return weight;
            }
        }
        return NONE;
    }

    public long spared(int cost, int step) throws NoSuchElementException {
        stepOf(cost, step);
        return sparedBy(chainOf(cost), step);
    }

    private long sparedBy(Chain chain, int step) {
        bench.standAhead(chain, step);
        if (!bench.goThrough(chain, step, LEFT_OUT)) {
            return NOT_SPARED;
        }
        return chain.curve.bottom - bench.work.bottom;
    }

    public int dearest(int cost) throws NoSuchElementException {
        Chain chain = chainOf(cost);
        int dearest = NONE;
        long most = 0;
        for (int i = 0; i < chain.size(); i++) {
            long spared = sparedBy(chain, i);
            if (dearest == NONE || spared > most) {
                dearest = i;
                most = spared;
            }
        }
        return dearest;
    }

    public long gap(int cost, int other) throws NoSuchElementException {
        Walk one = new Walk(curveOf(cost), -COMPARED_X);
        Walk two = new Walk(curveOf(other), -COMPARED_X);
        long widest = 0;
        for (int x = -COMPARED_X; x <= COMPARED_X; x++) {
            widest = Math.max(widest, Math.abs(one.value - two.value));
            one.goOn();
            two.goOn();
        }
        return widest;
    }

    public int alike(int cost, int other) throws NoSuchElementException {
        return curveOf(cost).isSameAs(curveOf(other)) ? 1 : 0;
    }

    public int told(int cost, int i) throws NoSuchElementException {
        tell(chainOf(cost));
        if (i == NONE) {
            return teller.length();
        }
        needSuch(i >= 0 && i < teller.length());
        return teller.charAt(i);
    }

    private void tell(Chain chain) {
        teller.setLength(0);
        for (int i = 0; i < chain.size(); i++) {
            Step step = chain.steps[i];
            teller.append(wordOf(step.kind));
            if (numbersOf(step.kind) >= 1) {
                teller.append(' ');
                teller.append(step.first);
            }
            if (numbersOf(step.kind) == 2) {
                teller.append(' ');
                teller.append(step.second);
            }
            teller.append(';');
        }
    }

    public int does(int cost, int kind, int a, int b) {
        if (!isTellable(cost, kind, a, b)) {
            return refuseAct();
        }
        return become(cost, bench.extend(chainOf(cost), newStep(kind, a, b)));
    }

    public int puts(int cost, int i, int kind, int a, int b) {
        if (!isTellable(cost, kind, a, b)) {
            return refuseAct();
        }
        Chain chain = chainOf(cost);
        if (i < 0 || i > chain.size()) {
            return refuseAct();
        }
        return become(cost, bench.build(chain.stepsWith(i, newStep(kind, a, b))));
    }

    public int takes(int cost, int i) {
        if (!isCost(cost)) {
            return refuseAct();
        }
        Chain chain = chainOf(cost);
        if (i < 0 || i >= chain.size()) {
            return refuseAct();
        }
        return become(cost, bench.build(chain.stepsWithout(i)));
    }

    public int copy(int cost, int other) {
        if (!isCost(cost) || !isCost(other) || cost == other || chainOf(other).hasOnTop(cost)) {
            return refuseAct();
        }
        return become(cost, chainOf(other));
    }

    private boolean isTellable(int cost, int kind, int a, int b) {
        if (!isCost(cost) || !isKind(kind) || !areNumbersOf(kind, a, b)) {
            return false;
        }
        return !(kind == AND && a == cost) && chainOf(cost).size() < MOST_STEPS;
    }

    /** No chain means that it would be too much. */
    private int become(int cost, Chain chain) {
        if (chain == null) {
            return refuseAct();
        }
        now.act(cost, chain);
        return chain.size();
    }

    private int refuseAct() {
        now.refused[REFUSED_ACTS]++;
        return NONE;
    }

    public int undo() {
        return now.takeBack() ? now.acts : NONE;
    }

    public int note(int x, long v) {
        if (now.notes >= MOST_NOTES || !isX(x)) {
            now.refused[REFUSED_NOTES]++;
            return NONE;
        }
        now.noteXs[now.notes] = x;
        now.noteValues[now.notes] = v;
        now.notes++;
        return now.notes;
    }

    public int fits(int step, int what) throws NoSuchElementException {
        needWeighted(step, what);
        Chain chain = chainOf(0);
        int many = 0;
        int first = NONE;
        bench.standAhead(chain, step);
        for (int weight = 0; weight <= HIGHEST_TRIED_WEIGHT; weight++) {
            if (bench.goThrough(chain, step, weight) && now.holdsNotes(bench.work)) {
                first = many == 0 ? weight : first;
                many++;
            }
        }
        return what == 0 ? many : first;
    }

    public int look(int step, int what) throws NoSuchElementException {
        needWeighted(step, what);
        Chain chain = chainOf(0);
        Arrays.fill(unlike, 0);
        bench.standAhead(chain, step);
        for (int weight = 0; weight <= HIGHEST_TRIED_WEIGHT; weight++) {
            if (bench.goThrough(chain, step, weight) && now.holdsNotes(bench.work)) {
                lookAlong(bench.work);
            }
        }
        int best = 0;
        for (int i = 1; i < unlike.length; i++) {
            best = unlike[i] > unlike[best] ? i : best;
        }
        if (what == 1) {
            return unlike[best];
        }
        return unlike[best] == 0 ? NOWHERE : best - LOOKED_X;
    }

    /** A greater weight never costs less at any place, so that like values come one right behind the other. */
    private void lookAlong(Curve curve) {
        Walk walk = new Walk(curve, -LOOKED_X);
        for (int i = 0; i < unlike.length && i < lookedValues.length; i++) {
            if (unlike[i] == 0 || lookedValues[i] != walk.value) {
                unlike[i]++;
                lookedValues[i] = walk.value;
            }
            walk.goOn();
        }
    }

    private void needWeighted(int step, int what) {
        needSuch(stepOf(0, step).kind <= UNDER && (what == 0 || what == 1));
    }

    public void forget() {
        now.notes = 0;
    }

    public long years(int seed, int n, int what) throws NoSuchElementException, IllegalArgumentException {
        needSuch(what >= 0 && what <= 2);
        needFit(n >= 0 && n <= MOST_YEARS);
        Dice dice = new Dice(seed);
        bench.startWith(curveOf(0));
        for (int year = 0; year < n; year++) {
            liveYear(dice);
        }
        if (what == 0) {
            return bench.work.bottom;
        }
        return what == 1 ? bench.work.kinks : bench.work.valueAt(0);
    }

    private void liveYear(Dice dice) {
        int drawn = dice.draw(8);
        int kind;
        int first = 0;
        int second = 0;
        if (drawn <= 3) {
            kind = Math.min(drawn, UNDER);
            first = dice.draw(101) - 50;
            second = dice.draw(10);
        } else if (drawn == 4) {
            kind = DRIFT;
            first = dice.draw(21) - 10;
        } else if (drawn == 5) {
            kind = MOVE;
            first = dice.draw(6);
            second = dice.draw(6);
        } else if (drawn == 6) {
            kind = RISE;
        } else {
            kind = PLUS;
            first = dice.draw(10);
        }
        bench.applyIfNotTooMuch(kind, first, second);
    }

    public void image() {
        if (kept == null) {
            kept = new State();
        }
        kept.take(now);
    }

    public boolean restore() {
        if (kept == null) {
            return false;
        }
        now.take(kept);
        return true;
    }

    private static boolean isCost(int cost) {
        return cost >= 0 && cost < COSTS;
    }

    private static boolean isKind(int kind) {
        return kind >= 0 && kind < KINDS;
    }

    private static boolean isX(int x) {
        return x >= -FARTHEST_X && x <= FARTHEST_X;
    }

    private static void needSuch(boolean such) {
        if (!such) {
            throw new NoSuchElementException("there is none such");
        }
    }

    private static void needFit(boolean fit) {
        if (!fit) {
            throw new IllegalArgumentException("the number is not as the document wants it");
        }
    }

    private static void needCost(int cost) {
        needSuch(isCost(cost));
    }

    private static void needX(int x) {
        needFit(isX(x));
    }

    private Chain chainOf(int cost) {
        needCost(cost);
        return now.chains[cost];
    }

    private Curve curveOf(int cost) {
        return chainOf(cost).curve;
    }

    private Step stepOf(int cost, int i) {
        Chain chain = chainOf(cost);
        needSuch(i >= 0 && i < chain.size());
        return chain.steps[i];
    }

    /** What the step has no number for is kept as 0, whatever was told. */
    private Step newStep(int kind, int a, int b) {
        int first = numbersOf(kind) >= 1 ? a : 0;
        int second = numbersOf(kind) == 2 ? b : 0;
        return new Step(kind, first, second, kind == AND ? curveOf(first) : null);
    }

    private static boolean areNumbersOf(int kind, int a, int b) {
        int numbers = numbersOf(kind);
        if (numbers >= 1 && (a < LOWEST_FIRST[kind] || a > HIGHEST_FIRST[kind])) {
            return false;
        }
        return numbers < 2 || (b >= 0 && b <= HIGHEST_SECOND);
    }

    private static int numbersOf(int kind) {
        return isKind(kind) ? NUMBERS[kind] : 0;
    }

    private static String wordOf(int kind) {
        switch (kind) {
            case KINK:
                return "kink";
            case OVER:
                return "over";
            case UNDER:
                return "under";
            case DRIFT:
                return "drift";
            case MOVE:
                return "move";
            case RISE:
                return "rise";
            case FALL:
                return "fall";
            case PLUS:
                return "plus";
            case AND:
                return "and";
            default:
                return "";
        }
    }

    private static int clamp(int x, int from, int to) {
        return Math.min(Math.max(x, from), to);
    }

    private static boolean isFar(int place) {
        return place == FAR || place == -FAR;
    }

    private static int orNowhere(int place) {
        return isFar(place) ? NOWHERE : place;
    }

    /**
     * A convex cost that has a least value. Of its weight the first units, from the left, make it fall and all
     * others make it rise: this and the least value tell all of it.
     */
    private static final class Curve {
        int kinks;
        int[] places;
        int[] weights;
        /** How many units of weight make it fall: on the far left its slope is this below 0. */
        int left;
        int total;
        long bottom;

        Curve(int room) {
            int length = Math.max(room, 0);
            places = new int[length];
            weights = new int[length];
            kinks = 0;
            left = 0;
            total = 0;
            bottom = 0;
        }

        /** Nothing but 0 is left, with room for so many kinks. */
        void clear(int room) {
            if (room > places.length) {
                int length = Math.max(room, 2 * places.length);
                places = new int[length];
                weights = new int[length];
            }
            kinks = 0;
            left = 0;
            total = 0;
            bottom = 0;
        }

        /** Places must come rising; like ones become one kink. */
        void append(int place, int weight) {
            if (weight <= 0) {
                return;
            }
            if (kinks > 0 && kinks <= places.length && places[kinks - 1] == place) {
                weights[kinks - 1] += weight;
                total += weight;
            } else if (kinks < places.length) {
                places[kinks] = place;
                weights[kinks] = weight;
                kinks++;
                total += weight;
            }
        }

        void becomeKink(int place, int weight, int falling) {
            clear(1);
            append(place, weight);
            left = falling;
        }

        void take(Curve other) {
            clear(other.kinks);
            System.arraycopy(other.places, 0, places, 0, other.kinks);
            System.arraycopy(other.weights, 0, weights, 0, other.kinks);
            kinks = other.kinks;
            left = other.left;
            total = other.total;
            bottom = other.bottom;
        }

        Curve keepsake() {
            Curve same = new Curve(kinks);
            same.take(this);
            return same;
        }

        long valueAt(int x) {
            long value = bottom;
            int falling = left;
            for (int i = 0; i < kinks; i++) {
                int share = Math.min(falling, weights[i]);
                falling -= share;
                long above = (long) x - places[i];
                value += above < 0 ? -above * share : above * (weights[i] - share);
            }
            return value;
        }

        /** The slope from x to the place behind it. */
        int slopeBehind(int x) {
            int slope = -left;
            for (int i = 0; i < kinks && places[i] <= x; i++) {
                slope += weights[i];
            }
            return slope;
        }

        int kinksUpTo(int x) {
            int many = 0;
            while (many < kinks && places[many] <= x) {
                many++;
            }
            return many;
        }

        /** Where the unit of weight lies, counted from 1 on the left; FAR away on its side where there is none. */
        private int placeOfUnit(int unit) {
            if (unit < 1) {
                return -FAR;
            }
            int rest = unit;
            for (int i = 0; i < kinks; i++) {
                rest -= weights[i];
                if (rest <= 0) {
                    return places[i];
                }
            }
            return FAR;
        }

        /** The least place from which on it goes by this slope or a higher one. */
        int lowEnd(int slope) {
            return placeOfUnit(left + slope);
        }

        /** The greatest place up to which it goes by this slope or a lower one. */
        int highEnd(int slope) {
            return placeOfUnit(left + slope + 1);
        }

        int nearestToZero(int slope) {
            return clamp(0, lowEnd(slope), highEnd(slope));
        }

        /** A place where it is least, found by its kinks alone: what it costs there may not be known yet. */
        int someLowest() {
            int rest = left;
            for (int i = 0; i < kinks; i++) {
                rest -= weights[i];
                if (rest <= 0) {
                    return places[i];
                }
            }
            return 0;
        }

        boolean isTooMuch() {
            if (total > MOST_WEIGHT || bottom > MOST_LEAST) {
                return true;
            }
            return kinks > 0 && (places[0] < -FARTHEST_KINK || places[kinks - 1] > FARTHEST_KINK);
        }

        boolean isSameAs(Curve other) {
            if (kinks != other.kinks || left != other.left || bottom != other.bottom) {
                return false;
            }
            for (int i = 0; i < kinks; i++) {
                if (places[i] != other.places[i] || weights[i] != other.weights[i]) {
                    return false;
                }
            }
            return true;
        }
    }

    /** Goes along a curve place by place, without a new sum over all kinks at each. */
    private static final class Walk {
        private final Curve curve;
        private int x;
        private int slope;
        private int passed;
        long value;

        Walk(Curve curve, int x) {
            this.curve = curve;
            this.x = x;
            slope = curve.slopeBehind(x);
            passed = curve.kinksUpTo(x);
            value = curve.valueAt(x);
        }

        void goOn() {
            value += slope;
            x++;
            if (passed < curve.kinks && curve.places[passed] == x) {
                slope += curve.weights[passed];
                passed++;
            }
        }
    }

    private static final class Step {
        final int kind;
        final int first;
        final int second;
        /** Of 'and' the other cost as it was when this was told; null for all other kinds. */
        final Curve onTop;

        Step(int kind, int first, int second, Curve onTop) {
            this.kind = kind;
            this.first = first;
            this.second = second;
            this.onTop = onTop;
        }

        long costAt(int x) {
            switch (kind) {
                case KINK:
                    return (long) second * Math.abs(x - first);
                case OVER:
                    return (long) second * Math.max(x - first, 0);
                case UNDER:
                    return (long) second * Math.max(first - x, 0);
                case PLUS:
                    return first;
                case AND:
                    return onTop == null ? 0 : onTop.valueAt(x);
                default:
                    return 0;
            }
        }
    }

    /** Steps with the curve that they make. It never changes, so that acts, images and copies may share it. */
    private static final class Chain {
        final Step[] steps;
        /** Ahead of each step the ends of the flat: of all that was there, a path needs no more. */
        private final int[] flatFrom;
        private final int[] flatTo;
        final Curve curve;

        Chain(Step[] steps, int[] flatFrom, int[] flatTo, Curve curve) {
            this.steps = steps;
            this.flatFrom = flatFrom;
            this.flatTo = flatTo;
            this.curve = curve;
        }

        int size() {
            return steps.length;
        }

        /** Where one was ahead of the i-th step, if one is at x behind it. */
        private int placeAhead(int i, int x) {
            Step step = steps[i];
            switch (step.kind) {
                case DRIFT:
                    return x - step.first;
                case MOVE:
                    return clamp(clamp(x, flatFrom[i], flatTo[i]), x - step.second, x + step.first);
                case RISE:
                    return Math.min(x, flatTo[i]);
                case FALL:
                    return Math.max(x, flatFrom[i]);
                default:
                    return x;
            }
        }

        int placeBehind(int many, int end) {
            int x = end;
            for (int i = steps.length - 1; i >= 0 && i >= many; i--) {
                x = placeAhead(i, x);
            }
            return x;
        }

        int wayTo(int end) {
            int way = 0;
            int x = end;
            for (int i = steps.length - 1; i >= 0; i--) {
                int ahead = placeAhead(i, x);
                way += Math.abs(x - ahead);
                x = ahead;
            }
            return way;
        }

        boolean hasOnTop(int cost) {
            for (int i = 0; i < steps.length; i++) {
                if (steps[i].kind == AND && steps[i].first == cost) {
                    return true;
                }
            }
            return false;
        }

        Step[] stepsWith(int place, Step step) {
            Step[] more = new Step[steps.length + 1];
            for (int i = 0; i < more.length; i++) {
                if (i == place || i > steps.length) {
                    more[i] = step;
                } else {
                    more[i] = i < place ? steps[i] : steps[i - 1];
                }
            }
            return more;
        }

        Step[] stepsWithout(int place) {
            Step[] fewer = new Step[Math.max(steps.length - 1, 0)];
            for (int i = 0; i < fewer.length; i++) {
                fewer[i] = i < place ? steps[i] : steps[i + 1];
            }
            return fewer;
        }
    }

    /** Where curves are made, step by step, in rows that are used again for each. */
    private static final class Bench {
        private static final int FIRST_ROOM = 48;

        Curve work;
        private Curve spare;
        private final Curve base;
        private final Curve single;
        private final int[] flatFrom;
        private final int[] flatTo;
        /** The step by which the latest chain that was to be built would have been too much. */
        int failed;

        Bench() {
            work = new Curve(FIRST_ROOM);
            spare = new Curve(FIRST_ROOM);
            base = new Curve(FIRST_ROOM);
            single = new Curve(1);
            flatFrom = new int[MOST_STEPS];
            flatTo = new int[MOST_STEPS];
            failed = NONE;
        }

        void startWith(Curve curve) {
            work.take(curve);
        }

        /** Null, if a step would be too much. */
        Chain build(Step[] steps) {
            failed = NONE;
            work.clear(0);
            for (int i = 0; i < steps.length && i < MOST_STEPS; i++) {
                flatFrom[i] = work.lowEnd(0);
                flatTo[i] = work.highEnd(0);
                if (!applyStep(steps[i])) {
                    failed = i;
                    return null;
                }
            }
            return finished(steps);
        }

        /** Null, if the step would be too much. */
        Chain extend(Chain chain, Step step) {
            int size = chain.size();
            if (size >= MOST_STEPS) {
                return null;
            }
            System.arraycopy(chain.flatFrom, 0, flatFrom, 0, size);
            System.arraycopy(chain.flatTo, 0, flatTo, 0, size);
            work.take(chain.curve);
            flatFrom[size] = work.lowEnd(0);
            flatTo[size] = work.highEnd(0);
            return applyStep(step) ? finished(chain.stepsWith(size, step)) : null;
        }

        private Chain finished(Step[] steps) {
            int size = Math.min(steps.length, MOST_STEPS);
            return new Chain(steps, Arrays.copyOf(flatFrom, size), Arrays.copyOf(flatTo, size), work.keepsake());
        }

        /** The base becomes what was ahead of the step. */
        void standAhead(Chain chain, int step) {
            work.clear(0);
            for (int i = 0; i < step && i < chain.size(); i++) {
                applyStep(chain.steps[i]);
            }
            base.take(work);
        }

        /** From the base on through the step, with this weight or LEFT_OUT, and all others; false: too much. */
        boolean goThrough(Chain chain, int step, int weight) {
            work.take(base);
            if (step < 0 || step >= chain.size()) {
                return false;
            }
            Step changed = chain.steps[step];
            if (weight != LEFT_OUT && !apply(changed.kind, changed.first, weight, null)) {
                return false;
            }
            for (int i = step + 1; i < chain.size(); i++) {
                if (!applyStep(chain.steps[i])) {
                    return false;
                }
            }
            return true;
        }

        void applyIfNotTooMuch(int kind, int first, int second) {
            base.take(work);
            if (!apply(kind, first, second, null)) {
                work.take(base);
            }
        }

        private boolean applyStep(Step step) {
            return apply(step.kind, step.first, step.second, step.onTop);
        }

        /** False, if it is too much; what the work is then is of no use. */
        private boolean apply(int kind, int first, int second, Curve onTop) {
            switch (kind) {
                case KINK:
                    single.becomeKink(first, 2 * second, second);
                    return add(single);
                case OVER:
                    single.becomeKink(first, second, 0);
                    return add(single);
                case UNDER:
                    single.becomeKink(first, second, second);
                    return add(single);
                case DRIFT:
                    reshape(true, true, -first, first);
                    break;
                case MOVE:
                    reshape(true, true, first, second);
                    break;
                case RISE:
                    reshape(true, false, 0, 0);
                    break;
                case FALL:
                    reshape(false, true, 0, 0);
                    break;
                case PLUS:
                    work.bottom += first;
                    break;
                case AND:
                    return onTop == null || add(onTop);
                default:
                    break;
            }
            return !work.isTooMuch();
        }

        private boolean add(Curve other) {
            if (work.total + other.total > MOST_WEIGHT) {
                return false;
            }
            int all = work.kinks + other.kinks;
            spare.clear(all);
            int mine = 0;
            int its = 0;
            for (int k = 0; k < all; k++) {
                if (its >= other.kinks || (mine < work.kinks && work.places[mine] <= other.places[its])) {
                    spare.append(work.places[mine], work.weights[mine]);
                    mine++;
                } else {
                    spare.append(other.places[its], other.weights[its]);
                    its++;
                }
            }
            spare.left = work.left + other.left;
            int lowest = spare.someLowest();
            spare.bottom = work.valueAt(lowest) + other.valueAt(lowest);
            swap();
            return !work.isTooMuch();
        }

        /** The falling part stays or goes, and goes down by so much; the rising part likewise up. */
        private void reshape(boolean keepsFalling, boolean keepsRising, int down, int up) {
            spare.clear(work.kinks + 1);
            int falling = work.left;
            for (int i = 0; i < work.kinks; i++) {
                int share = Math.min(falling, work.weights[i]);
                falling -= share;
                spare.append(work.places[i] - down, keepsFalling ? share : 0);
                spare.append(work.places[i] + up, keepsRising ? work.weights[i] - share : 0);
            }
            spare.left = keepsFalling ? work.left : 0;
            spare.bottom = work.bottom;
            swap();
        }

        private void swap() {
            Curve made = spare;
            spare = work;
            work = made;
        }
    }

    /** Reads a text's clauses up to its first fault; whether the steps are too much is not its matter. */
    private static final class Reader {
        private static final int END = 0;
        private static final int WORD = 1;
        private static final int NUMBER = 2;
        private static final int SIGN = 3;
        private static final int STRANGE = 4;
        private static final int MOST_DIGITS = 3;

        final int[] kinds;
        final int[] firsts;
        final int[] seconds;
        private final int[] words;
        int clauses;
        int fault;
        int faultAt;
        private byte[] bytes;
        private int length;
        private int cost;
        private int token;
        private int tokenAt;
        private int tokenEnd;

        Reader() {
            kinds = new int[MOST_STEPS];
            firsts = new int[MOST_STEPS];
            seconds = new int[MOST_STEPS];
            words = new int[MOST_STEPS];
            bytes = new byte[0];
        }

        int wordPlace(int clause) {
            return clause >= 0 && clause < words.length ? words[clause] : NONE;
        }

        void read(byte[] text, int size, int toldCost) {
            bytes = text;
            length = Math.min(size, text.length);
            cost = toldCost;
            clauses = 0;
            fault = 0;
            faultAt = NONE;
            tokenEnd = 0;
            for (int round = 0; round <= MOST_STEPS && fault == 0; round++) {
                nextToken();
                if (token == END) {
                    return;
                }
                readClause();
            }
        }

        private void readClause() {
            int kind = token == WORD ? kindOfToken() : NONE;
            if (kind == NONE) {
                fail(CANT_STAND);
                return;
            }
            if (clauses >= MOST_STEPS) {
                fail(ONE_TOO_MANY);
                return;
            }
            words[clauses] = tokenAt;
            kinds[clauses] = kind;
            firsts[clauses] = readFirst(kind);
            seconds[clauses] = numbersOf(kind) == 2 && fault == 0 ? readNumber(false, HIGHEST_SECOND) : 0;
            if (fault != 0) {
                return;
            }
            nextToken();
            if (!isSign(';')) {
                fail(CANT_STAND);
                return;
            }
            clauses++;
        }

        private int readFirst(int kind) {
            if (numbersOf(kind) == 0) {
                return 0;
            }
            int number = readNumber(LOWEST_FIRST[kind] < 0, HIGHEST_FIRST[kind]);
            if (fault == 0 && kind == AND && number == cost) {
                fail(ONE_TOO_MANY);
            }
            return number;
        }

        private int readNumber(boolean mayBeBelowZero, int highest) {
            nextToken();
            boolean below = mayBeBelowZero && isSign('-');
            if (below) {
                nextToken();
            }
            if (token != NUMBER) {
                fail(CANT_STAND);
                return 0;
            }
            int number = numberOfToken();
            if (number > highest) {
                fail(NOT_AS_TOLD);
                return 0;
            }
            return below ? -number : number;
        }

        /** Of more digits than a number may have it is above all that may be told. */
        private int numberOfToken() {
            if (tokenEnd - tokenAt > MOST_DIGITS) {
                return FAR;
            }
            int number = 0;
            for (int i = tokenAt; i < tokenEnd; i++) {
                number = 10 * number + byteAt(i) - '0';
            }
            return number;
        }

        private void fail(int what) {
            fault = what;
            faultAt = tokenAt;
        }

        private int kindOfToken() {
            for (int kind = 0; kind < KINDS; kind++) {
                if (isTokenWord(wordOf(kind))) {
                    return kind;
                }
            }
            return NONE;
        }

        private boolean isTokenWord(String word) {
            if (word.length() != tokenEnd - tokenAt) {
                return false;
            }
            for (int i = 0; i < word.length(); i++) {
                if (word.charAt(i) != byteAt(tokenAt + i)) {
                    return false;
                }
            }
            return true;
        }

        private boolean isSign(int sign) {
            return token == SIGN && byteAt(tokenAt) == sign;
        }

        /** A byte behind the end is like no sign at all. */
        private int byteAt(int i) {
            return i >= 0 && i < length && i < bytes.length ? bytes[i] : NONE;
        }

        private void nextToken() {
            tokenAt = tokenEnd;
            while (tokenAt < length && isBlank(byteAt(tokenAt))) {
                tokenAt++;
            }
            tokenEnd = tokenAt;
            if (tokenAt >= length) {
                token = END;
                return;
            }
            token = tokenKind(byteAt(tokenAt));
            tokenEnd++;
            if (token == WORD || token == NUMBER) {
                while (tokenEnd < length && tokenKind(byteAt(tokenEnd)) == token) {
                    tokenEnd++;
                }
            }
        }

        private static boolean isBlank(int sign) {
            return sign == 32 || sign == 10;
        }

        private static int tokenKind(int sign) {
            if (sign >= 'a' && sign <= 'z') {
                return WORD;
            }
            if (sign >= '0' && sign <= '9') {
                return NUMBER;
            }
            return sign == ';' || sign == '-' ? SIGN : STRANGE;
        }
    }

    /** The draws of the years. */
    private static final class Dice {
        private int seed;

        Dice(int seed) {
            this.seed = seed;
        }

        int draw(int n) {
            seed = seed * 1103515245 + 12345;
            return n < 1 ? 0 : (seed >>> 16 & 0x7fff) % n;
        }
    }

    /** All that an image keeps. */
    private static final class State {
        final Chain[] chains;
        private final int[] actCosts;
        private final Chain[] actChains;
        int acts;
        final int[] noteXs;
        final long[] noteValues;
        int notes;
        final int[] refused;

        State() {
            Chain empty = new Chain(new Step[0], new int[0], new int[0], new Curve(0));
            chains = new Chain[COSTS];
            for (int cost = 0; cost < COSTS; cost++) {
                chains[cost] = empty;
            }
            actCosts = new int[MOST_ACTS];
            actChains = new Chain[MOST_ACTS];
            acts = 0;
            noteXs = new int[MOST_NOTES];
            noteValues = new long[MOST_NOTES];
            notes = 0;
            refused = new int[3];
        }

        void act(int cost, Chain chain) {
            if (acts >= MOST_ACTS) {
                dropOldestAct();
            }
            actCosts[acts] = cost;
            actChains[acts] = chains[cost];
            acts++;
            chains[cost] = chain;
        }

        private void dropOldestAct() {
            for (int i = 1; i < MOST_ACTS; i++) {
                actCosts[i - 1] = actCosts[i];
                actChains[i - 1] = actChains[i];
            }
            acts = MOST_ACTS - 1;
        }

        boolean takeBack() {
            if (acts <= 0) {
                return false;
            }
            acts--;
            chains[actCosts[acts]] = actChains[acts];
            return true;
        }

        boolean holdsNotes(Curve curve) {
            for (int i = 0; i < notes && i < MOST_NOTES; i++) {
                if (curve.valueAt(noteXs[i]) != noteValues[i]) {
                    return false;
                }
            }
            return true;
        }

        void take(State other) {
            for (int cost = 0; cost < COSTS; cost++) {
                chains[cost] = other.chains[cost];
            }
            for (int i = 0; i < MOST_ACTS; i++) {
                actCosts[i] = other.actCosts[i];
                actChains[i] = other.actChains[i];
            }
            acts = other.acts;
            for (int i = 0; i < MOST_NOTES; i++) {
                noteXs[i] = other.noteXs[i];
                noteValues[i] = other.noteValues[i];
            }
            notes = other.notes;
            for (int i = 0; i < refused.length; i++) {
                refused[i] = other.refused[i];
            }
        }
    }
}
