import java.util.Arrays;
import java.util.NoSuchElementException;

/**
 * A desk for linkages of four bars. Words in capitals are those of the document (../shared/DOC.md).
 * All arithmetic is exact: roots are held as u + v times the root of K, never as fractions of two.
 * All rows are made in the constructor and used again, so that no call makes an object.
 */
public final class CrankBranches {
    public static final int NONE = -1;
    public static final int NOTHING = -1000000000;

    private static final long LOWEST = -9223372036854775808L;
    private static final int NO_WAY = -2;

    private static final int FINE = 0;
    private static final int NO_SUCH = 1;
    private static final int NUMBER = 2;
    private static final int FAULTY = 4;
    private static final int NOT_SO = 5;

    private static final int BARS = 0;
    private static final int TRACERS = 1;
    private static final int POINTS = 2;
    private static final int PAIRS = 3;
    private static final int SORTS = 4;
    private static final int LONGEST_BAR = 18;
    private static final int WIDEST = 100;
    private static final int FARTHEST = 100;

    private int refusal = FINE;
    private final Tape tape = new Tape();
    private Desk current = new Desk();
    private Desk spare = new Desk();
    private final Linkage linkage = new Linkage();
    private final Position position = new Position();
    private final Curve curve = new Curve();
    private final Pairs pairs = new Pairs();
    private final Walk path = new Walk();
    private final Acts acts = new Acts();

    public CrankBranches() {
    }

    // ---- the desk

    public int feed(int a, int b, int c, int d, int e) {
        if (!tape.hasRoom()) {
            return NONE;
        }
        tape.put(a);
        tape.put(b);
        tape.put(c);
        tape.put(d);
        tape.put(e);
        return tape.length();
    }

    public int desk(int n) {
        if (refused(n >= 0 && n <= tape.length(), NUMBER)) {
            return NONE;
        }
        // Read into the spare one: a text with a FAULT leaves the DESK as it was.
        boolean fits = tape.reads(n, spare);
        if (refused(fits, FAULTY)) {
            return NONE;
        }
        Desk old = current;
        current = spare;
        spare = old;
        pairs.take(current);
        path.stop();
        acts.forget();
        return current.count(BARS);
    }

    public int fault() {
        return tape.faultFound();
    }

    public int where() {
        // desk() alone is refused by 4, so TROUBLE tells whether it was the latest one.
        return refusal == FAULTY ? tape.faultPlace() : NONE;
    }

    // ---- the turn

    public int angles() {
        return Turn.COUNT;
    }

    public int angle(int k, int what) {
        if (refused(Turn.has(k) && isOf(what, 2), NO_SUCH)) {
            return NOTHING;
        }
        return what == 0 ? Turn.rise(k) : Turn.run(k);
    }

    public int which(int p, int q) {
        boolean fits = p >= -Turn.BOUND && p <= Turn.BOUND && q >= -Turn.BOUND && q <= Turn.BOUND;
        if (refused(fits && (p != 0 || q != 0), NUMBER)) {
            return NONE;
        }
        return Turn.numberOf(p, q);
    }

    // ---- linkages

    public int bar(int l, int i) {
        if (refused(hasLinkage(l) && isOf(i, 4), NO_SUCH)) {
            return NONE;
        }
        return current.told(BARS, l, i);
    }

    public int sums(int l) {
        if (refused(hasLinkage(l), NO_SUCH)) {
            return NOTHING;
        }
        return linkageAt(l).middleLessOuter();
    }

    public int kind(int l) {
        if (refused(hasLinkage(l), NO_SUCH)) {
            return NONE;
        }
        return linkageAt(l).sortOf();
    }

    public int round(int l, int joint) {
        if (refused(hasLinkage(l) && isOf(joint, 4), NO_SUCH)) {
            return NONE;
        }
        return linkageAt(l).goesRound(joint) ? 1 : 0;
    }

    public long least(int l, boolean lower) {
        return cosineTold(l, false, lower);
    }

    public long most(int l, boolean lower) {
        return cosineTold(l, true, lower);
    }

    public int ends(int l) {
        if (refused(hasLinkage(l), NO_SUCH)) {
            return NONE;
        }
        return linkageAt(l).endCount();
    }

    public int arcs(int l) {
        if (refused(hasLinkage(l), NO_SUCH)) {
            return NONE;
        }
        return linkageAt(l).arcCount();
    }

    public int circuits(int l) {
        if (refused(hasLinkage(l), NO_SUCH)) {
            return NONE;
        }
        return linkageAt(l).circuitCount();
    }

    // ---- positions

    public int lawful(int l, int k) {
        if (refused(hasLinkage(l) && Turn.has(k), NO_SUCH)) {
            return NONE;
        }
        return positionAt(l, k).state();
    }

    public int lawfuls(int l) {
        if (refused(hasLinkage(l), NO_SUCH)) {
            return NONE;
        }
        return countFrom(l, Position.OPEN);
    }

    public int deads(int l) {
        if (refused(hasLinkage(l), NO_SUCH)) {
            return NONE;
        }
        return countFrom(l, Position.DEAD);
    }

    public int between(int l, int k) {
        if (refused(hasLinkage(l) && Turn.has(k), NO_SUCH)) {
            return NONE;
        }
        return linkageAt(l).endsBehind(k);
    }

    public long span(int l, int k, boolean lower) {
        if (refused(hasLinkage(l) && Turn.has(k), NO_SUCH)) {
            return NONE;
        }
        Position at = positionAt(l, k);
        return Wholes.reduced(at.s, at.n, lower);
    }

    public long under(int l, int k) {
        if (refused(hasLinkage(l) && Turn.has(k), NO_SUCH)) {
            return LOWEST;
        }
        return positionAt(l, k).k;
    }

    public int joint(int l, int k, int branch, int what) {
        if (refused(hasPosition(l, k, branch) && isOf(what, 2), NO_SUCH)) {
            return NOTHING;
        }
        if (refused(positionAt(l, k).isLawful(), NOT_SO)) {
            return NOTHING;
        }
        // The end of the rod is what a TRACER ten tenths along it would trace.
        position.trace(10, 0, branch);
        return what == 0 ? position.tenthsX() : position.tenthsY();
    }

    public long exact(int l, int k, int branch, int what) {
        if (refused(hasPosition(l, k, branch) && isOf(what, 6), NO_SUCH)) {
            return LOWEST;
        }
        if (refused(positionAt(l, k).isLawful(), NOT_SO)) {
            return LOWEST;
        }
        return what < 3 ? position.jointX(branch, what) : position.jointY(branch, what - 3);
    }

    public int circuit(int l, int k, int branch) {
        if (refused(hasPosition(l, k, branch), NO_SUCH)) {
            return NONE;
        }
        if (refused(positionAt(l, k).isLawful(), NOT_SO)) {
            return NONE;
        }
        if (linkage.isByBranches()) {
            return branch;
        }
        return linkage.arcCount() == 2 && position.d < 0 ? 1 : 0;
    }

    public long force(int l, int k, boolean lower) {
        if (refused(hasLinkage(l) && Turn.has(k), NO_SUCH)) {
            return LOWEST;
        }
        if (refused(positionAt(l, k).isLawful(), NOT_SO)) {
            return LOWEST;
        }
        return Wholes.reduced(position.forceUpper(), position.forceLower(), lower);
    }

    public int easiest(int l) {
        if (refused(hasLinkage(l), NO_SUCH)) {
            return NONE;
        }
        linkageAt(l);
        int found = NO_WAY;
        long upper = 0;
        long lower = 1;
        for (int k = 0; k < Turn.COUNT; k++) {
            position.set(linkage, k);
            long size = Math.abs(position.forceUpper());
            boolean less = found == NO_WAY || size * lower < upper * position.forceLower();
            if (position.isLawful() && less) {
                found = k;
                upper = size;
                lower = position.forceLower();
            }
        }
        return found;
    }

    public long swing(int l, boolean most, boolean lower) {
        if (refused(hasLinkage(l), NO_SUCH)) {
            return LOWEST;
        }
        if (refused(linkageAt(l).hasCosines(), NOT_SO)) {
            return LOWEST;
        }
        int cosine = most ? linkage.greatestCosine() : linkage.leastCosine();
        return Wholes.reduced(linkage.swingUpper(cosine), linkage.swingLower(), lower);
    }

    public long rate(int l, int k, int branch, int what) {
        if (refused(hasPosition(l, k, branch) && isOf(what, 3), NO_SUCH)) {
            return LOWEST;
        }
        if (refused(positionAt(l, k).state() == Position.OPEN, NOT_SO)) {
            return LOWEST;
        }
        return position.turning(branch, what);
    }

    // ---- curves

    public int tracer(int i, int what) {
        if (refused(current.has(TRACERS, i) && isOf(what, 2), NO_SUCH)) {
            return NOTHING;
        }
        return current.told(TRACERS, i, what);
    }

    public int point(int i, int what) {
        if (refused(current.has(POINTS, i) && isOf(what, 2), NO_SUCH)) {
            return NOTHING;
        }
        return current.told(POINTS, i, what);
    }

    public int traced(int l, int i, int k, int branch, int what) {
        if (refused(hasCurve(l, i, branch) && Turn.has(k) && isOf(what, 2), NO_SUCH)) {
            return NOTHING;
        }
        if (refused(positionAt(l, k).isLawful(), NOT_SO)) {
            return NOTHING;
        }
        position.trace(current.told(TRACERS, i, 0), current.told(TRACERS, i, 1), branch);
        return what == 0 ? position.tenthsX() : position.tenthsY();
    }

    public int box(int l, int i, int branch, int what) {
        if (refused(hasCurve(l, i, branch) && isOf(what, 4), NO_SUCH)) {
            return NOTHING;
        }
        if (refused(!curveAt(l, i, branch).isEmpty(), NOT_SO)) {
            return NOTHING;
        }
        return curve.extreme(what);
    }

    public long area(int l, int i, int branch) {
        if (refused(hasCurve(l, i, branch), NO_SUCH)) {
            return LOWEST;
        }
        return curveAt(l, i, branch).edgeSum();
    }

    public int crossings(int l, int i, int branch) {
        if (refused(hasCurve(l, i, branch), NO_SUCH)) {
            return NONE;
        }
        return curveAt(l, i, branch).cutCount();
    }

    public int hull(int l, int i, int branch) {
        if (refused(hasCurve(l, i, branch), NO_SUCH)) {
            return NONE;
        }
        return curveAt(l, i, branch).wrap();
    }

    public int corner(int l, int i, int branch, int j) {
        if (refused(hasCurve(l, i, branch), NO_SUCH)) {
            return NONE;
        }
        int corners = curveAt(l, i, branch).wrap();
        if (refused(isOf(j, corners), NO_SUCH)) {
            return NONE;
        }
        return curve.cornerAngle(j);
    }

    public long hullArea(int l, int i, int branch) {
        if (refused(hasCurve(l, i, branch), NO_SUCH)) {
            return NONE;
        }
        curveAt(l, i, branch).wrap();
        return curve.wrappedTwice();
    }

    public int straight(int l, int i, int branch, int h) {
        return refusesRun(l, i, branch, h) ? NONE : curve.runLength();
    }

    public int straightFrom(int l, int i, int branch, int h) {
        return refusesRun(l, i, branch, h) ? NONE : curve.runAngle();
    }

    public int near(int l, int i, int branch, int point, int place) {
        if (refused(hasCurve(l, i, branch) && current.has(POINTS, point), NO_SUCH)) {
            return NONE;
        }
        if (refused(isOf(place, curveAt(l, i, branch).length()), NO_SUCH)) {
            return NONE;
        }
        return curve.angleByMiss(current.told(POINTS, point, 0), current.told(POINTS, point, 1), place);
    }

    public int miss(int l, int i, int branch, int point) {
        if (refused(hasCurve(l, i, branch) && current.has(POINTS, point), NO_SUCH)) {
            return NONE;
        }
        if (refused(!curveAt(l, i, branch).isEmpty(), NOT_SO)) {
            return NONE;
        }
        return curve.leastMiss(current.told(POINTS, point, 0), current.told(POINTS, point, 1));
    }

    public int met(int l, int i, int branch, int point) {
        if (refused(hasCurve(l, i, branch) && current.has(POINTS, point), NO_SUCH)) {
            return NONE;
        }
        linkageAt(l);
        int x = current.told(POINTS, point, 0);
        int y = current.told(POINTS, point, 1);
        for (int k = 0; k < Turn.COUNT; k++) {
            position.set(linkage, k);
            position.trace(current.told(TRACERS, i, 0), current.told(TRACERS, i, 1), branch);
            if (position.isLawful() && position.isExactlyAt(x, y)) {
                return k;
            }
        }
        return NO_WAY;
    }

    public int best(int l, int branch) {
        if (refused(hasLinkage(l) && isOf(branch, 2), NO_SUCH)) {
            return NONE;
        }
        boolean any = current.count(TRACERS) > 0 && current.count(POINTS) > 0;
        // Which angles are LAWFUL is the same for all TRACERS, so the first one's CURVE tells.
        if (refused(any && !curveAt(l, 0, branch).isEmpty(), NOT_SO)) {
            return NONE;
        }
        int found = 0;
        int fewest = missesOf(l, 0, branch);
        for (int i = 1; i < current.count(TRACERS); i++) {
            int misses = missesOf(l, i, branch);
            if (misses < fewest) {
                found = i;
                fewest = misses;
            }
        }
        return found;
    }

    // ---- pairs

    public int pair(int i, int what) {
        if (refused(current.has(PAIRS, i) && isOf(what, 4), NO_SUCH)) {
            return NOTHING;
        }
        return current.told(PAIRS, i, what);
    }

    public long closing(int l, int i, boolean lower) {
        if (refused(hasLinkage(l) && current.has(PAIRS, i), NO_SUCH)) {
            return LOWEST;
        }
        return Wholes.reduced(pairs.closingUpper(i, linkageAt(l)), pairs.closingLower(i), lower);
    }

    public int fit(int what) {
        return refusesFit(isOf(what, 3)) ? NONE : pairs.foundBar(what);
    }

    public long fitMiss(boolean lower) {
        if (refusesFit(true)) {
            return NONE;
        }
        return Wholes.reduced(pairs.foundUpper(), pairs.foundLower(), lower);
    }

    public long three(int what, boolean lower) {
        if (refused(hasLinkage(0) && isOf(what, 3), NO_SUCH)) {
            return LOWEST;
        }
        if (refused(current.count(PAIRS) >= 3 && pairs.determinant(NONE) != 0, NOT_SO)) {
            return LOWEST;
        }
        return Wholes.reduced(pairs.determinant(what), pairs.determinant(NONE), lower);
    }

    // ---- the walk

    public boolean begin(int l, int k, int branch) {
        if (refused(hasPosition(l, k, branch), NO_SUCH)) {
            return false;
        }
        if (refused(positionAt(l, k).isLawful(), NOT_SO)) {
            return false;
        }
        for (int other = 0; other < Turn.COUNT; other++) {
            position.set(linkage, other);
            path.learn(other, position.state());
        }
        path.start(l, k, branch);
        return true;
    }

    public int walk(int what) {
        if (refused(isOf(what, 4), NO_SUCH)) {
            return NONE;
        }
        if (refused(path.isOn(), NOT_SO)) {
            return NONE;
        }
        return path.told(what);
    }

    public int steps(int n) {
        if (refused(path.isOn(), NOT_SO)) {
            return NONE;
        }
        if (refused(n >= -FARTHEST && n <= FARTHEST, NUMBER)) {
            return NONE;
        }
        return path.go(Math.abs(n), n < 0);
    }

    public int flip() {
        if (refused(path.isOn() && path.isAtDead(), NOT_SO)) {
            return NONE;
        }
        return path.change();
    }

    public int away(int k, int branch) {
        if (refused(path.isOn(), NOT_SO)) {
            return NONE;
        }
        if (refused(Turn.has(k) && isOf(branch, 2), NO_SUCH)) {
            return NONE;
        }
        return path.fewestTo(k, branch);
    }

    // ---- acts

    public int reshape(int l, int i, int length) {
        if (refused(hasLinkage(l) && isOf(i, 4), NO_SUCH)) {
            return NONE;
        }
        if (refused(length >= 1 && length <= LONGEST_BAR, NUMBER)) {
            return NONE;
        }
        int old = current.told(BARS, l, i);
        acts.keep(l, i, old);
        current.changeBar(l, i, length);
        path.stop();
        return old;
    }

    public boolean undo() {
        if (refused(acts.count() > 0, NO_SUCH)) {
            return false;
        }
        acts.takeBack(current);
        path.stop();
        return true;
    }

    // ---- what is told

    public int unbuilt(int i) throws NoSuchElementException {
        int met = 0;
        for (int l = 0; l < current.count(BARS); l++) {
            if (!linkageAt(l).canBeBuilt()) {
                if (met == i) {
                    return l;
                }
                met++;
            }
        }
        throw new NoSuchElementException("no such linkage");
    }

    public int size(int what) {
        if (isOf(what, SORTS)) {
            return current.count(what);
        }
        if (what == 4) {
            return acts.count();
        }
        return what == 5 ? tape.length() : NONE;
    }

    public int trouble() {
        return refusal;
    }

    // ---- what the calls have in common

    /** Every call that may be refused sets TROUBLE by this, so the latest test of it stands. */
    private boolean refused(boolean fits, int number) {
        refusal = fits ? FINE : number;
        return !fits;
    }

    private static boolean isOf(int what, int count) {
        return what >= 0 && what < count;
    }

    private boolean hasLinkage(int l) {
        return current.has(BARS, l);
    }

    private boolean hasPosition(int l, int k, int branch) {
        return hasLinkage(l) && Turn.has(k) && isOf(branch, 2);
    }

    private boolean hasCurve(int l, int i, int branch) {
        return hasLinkage(l) && current.has(TRACERS, i) && isOf(branch, 2);
    }

    private Linkage linkageAt(int l) {
        linkage.take(current, l);
        return linkage;
    }

    private Position positionAt(int l, int k) {
        position.set(linkageAt(l), k);
        return position;
    }

    private Curve curveAt(int l, int i, int branch) {
        linkageAt(l);
        int m = current.told(TRACERS, i, 0);
        int n = current.told(TRACERS, i, 1);
        curve.empty();
        for (int k = 0; k < Turn.COUNT; k++) {
            position.set(linkage, k);
            if (position.isLawful()) {
                position.trace(m, n, branch);
                curve.add(position.tenthsX(), position.tenthsY(), k);
            }
        }
        return curve;
    }

    private long cosineTold(int l, boolean greatest, boolean lower) {
        if (refused(hasLinkage(l), NO_SUCH)) {
            return LOWEST;
        }
        if (refused(linkageAt(l).hasCosines(), NOT_SO)) {
            return LOWEST;
        }
        int upper = greatest ? linkage.greatestCosine() : linkage.leastCosine();
        return Wholes.reduced(upper, linkage.cosineUnit(), lower);
    }

    private int countFrom(int l, int leastState) {
        linkageAt(l);
        int count = 0;
        for (int k = 0; k < Turn.COUNT; k++) {
            position.set(linkage, k);
            if (position.state() >= leastState) {
                count++;
            }
        }
        return count;
    }

    private boolean refusesRun(int l, int i, int branch, int h) {
        if (refused(hasCurve(l, i, branch), NO_SUCH) || refused(h >= 0 && h <= WIDEST, NUMBER)) {
            return true;
        }
        curveAt(l, i, branch).findRun(h);
        return false;
    }

    /** A DESK has a LINKAGE at least, so without the first one there is no DESK. */
    private boolean refusesFit(boolean such) {
        if (refused(hasLinkage(0) && such, NO_SUCH) || refused(current.count(PAIRS) > 0, NOT_SO)) {
            return true;
        }
        pairs.findBars(current.told(BARS, 0, 0));
        return false;
    }

    private int missesOf(int l, int i, int branch) {
        curveAt(l, i, branch);
        int all = 0;
        for (int p = 0; p < current.count(POINTS); p++) {
            all += curve.leastMiss(current.told(POINTS, p, 0), current.told(POINTS, p, 1));
        }
        return all;
    }

    /** Exact arithmetic on whole numbers. */
    private static final class Wholes {
        private Wholes() {
        }

        static long commonDivisor(long a, long b) {
            long greater = Math.abs(a);
            long rest = Math.abs(b);
            // Euclid's steps on numbers of 63 bits are fewer than a hundred.
            for (int i = 0; i < 100 && rest != 0; i++) {
                long next = greater % rest;
                greater = rest;
                rest = next;
            }
            return greater;
        }

        /** The upper or the lower WHOLE of a fraction in lowest terms, the lower one above 0. */
        static long reduced(long upper, long lower, boolean wantLower) {
            long divisor = commonDivisor(upper, lower);
            if (divisor == 0) {
                return 0;
            }
            long told = (wantLower ? lower : upper) / divisor;
            return lower < 0 ? -told : told;
        }

        /** One of u, v, w (what 0 .. 2) when the three have no common divisor. */
        static long reducedOf(long u, long v, long w, int what) {
            long divisor = commonDivisor(commonDivisor(u, v), w);
            if (divisor == 0) {
                return 0;
            }
            if (what == 2) {
                return w / divisor;
            }
            return (what == 0 ? u : v) / divisor;
        }

        /** The greatest WHOLE whose square is no more than this. */
        static long rootOf(long square) {
            if (square <= 0) {
                return 0;
            }
            // Newton's steps from above the root go down to it and never below.
            long root = 1L << ((65 - Long.numberOfLeadingZeros(square)) / 2);
            for (int i = 0; i < 64 && root > 0; i++) {
                long next = (root + square / root) / 2;
                if (next >= root) {
                    return root;
                }
                root = next;
            }
            return root;
        }

        /** The greatest WHOLE that is no more than (u + v root of k) by w. */
        static long floorOf(long u, long v, long k, long w) {
            if (w <= 0) {
                return 0;
            }
            long square = v * v * k;
            long root = rootOf(square);
            long whole = u + root;
            if (v < 0) {
                whole = root * root == square ? u - root : u - root - 1;
            }
            return Math.floorDiv(whole, w);
        }

        /** Whether (u + v root of k) is this whole number. */
        static boolean isWhole(long u, long v, long k, long whole) {
            long square = v * v * k;
            long root = rootOf(square);
            return root * root == square && (v < 0 ? u - root : u + root) == whole;
        }
    }

    /** THE TURN. */
    private static final class Turn {
        static final int BOUND = 5;
        static final int COUNT = 40;
        private static final int[] RISES = {
            -5, -4, -3, -5, -2, -5, -3, -4, -5, -1, -4, -3, -2, -3, -1, -2, -1, -1, -1,
            0, 1, 1, 1, 2, 1, 3, 2, 3, 4, 1, 5, 4, 3, 5, 2, 5, 3, 4, 5, 1};
        private static final int[] RUNS = {
            1, 1, 1, 2, 1, 3, 2, 3, 4, 1, 5, 4, 3, 5, 2, 5, 3, 4, 5,
            1, 5, 4, 3, 5, 2, 5, 3, 4, 5, 1, 4, 3, 2, 3, 1, 2, 1, 1, 1, 0};

        private Turn() {
        }

        static boolean has(int k) {
            return k >= 0 && k < COUNT;
        }

        static int rise(int k) {
            return has(k) ? RISES[k] : 0;
        }

        static int run(int k) {
            return has(k) ? RUNS[k] : 0;
        }

        static int behind(int k) {
            return k + 1 < COUNT ? k + 1 : 0;
        }

        static int ahead(int k) {
            return k > 0 ? k - 1 : COUNT - 1;
        }

        static int numberOf(int p, int q) {
            for (int k = 0; k < COUNT; k++) {
                // Of one tangent, in lowest terms or not, whatever the signs.
                if (RISES[k] * q == RUNS[k] * p) {
                    return k;
                }
            }
            return NONE;
        }

        static int norm(int p, int q) {
            return p * p + q * q;
        }

        static int cosine(int p, int q) {
            return q * q - p * p;
        }

        static int sine(int p, int q) {
            return 2 * p * q;
        }
    }

    /** What a text tells: rows of numbers, of four sorts. */
    private static final class Desk {
        private static final int[] ROOMS = {4, 4, 8, 4};
        private static final int[] WIDTHS = {4, 2, 2, 4};
        private static final int[] STARTS = {0, 16, 24, 40};
        private static final int ALL = 56;

        private final int[] numbers = new int[ALL];
        private final int[] counts = new int[SORTS];

        void clear() {
            Arrays.fill(counts, 0);
        }

        int count(int sort) {
            return sort >= 0 && sort < SORTS ? counts[sort] : 0;
        }

        boolean has(int sort, int i) {
            return sort >= 0 && sort < SORTS && i >= 0 && i < counts[sort];
        }

        boolean isFull(int sort) {
            return sort < 0 || sort >= SORTS || counts[sort] >= ROOMS[sort];
        }

        int told(int sort, int i, int what) {
            return has(sort, i) && what >= 0 && what < WIDTHS[sort]
                ? numbers[STARTS[sort] + i * WIDTHS[sort] + what] : 0;
        }

        void add(int sort, int[] row) {
            if (isFull(sort) || row.length < WIDTHS[sort]) {
                return;
            }
            int start = STARTS[sort] + counts[sort] * WIDTHS[sort];
            System.arraycopy(row, 0, numbers, start, WIDTHS[sort]);
            counts[sort]++;
        }

        void changeBar(int l, int i, int length) {
            if (has(BARS, l) && i >= 0 && i < WIDTHS[BARS]) {
                numbers[STARTS[BARS] + l * WIDTHS[BARS] + i] = length;
            }
        }
    }

    /** THE TAPE; reads the text of a DESK from the left, as far as the first FAULT. */
    private static final class Tape {
        private static final int ROOM = 700;
        private static final int FED = 20;
        private static final int FORM = 1;
        private static final int BOUNDS = 2;
        private static final int MANY = 3;
        private static final int LACKS = 4;
        private static final int DIGITS = 3;

        private final byte[] text = new byte[ROOM];
        private final int[] row = new int[4];
        private int length = 0;
        private int end = 0;
        private int at = 0;
        private int found = 0;
        private int place = NONE;

        boolean hasRoom() {
            return length + FED <= ROOM;
        }

        void put(int number) {
            for (int shift = 24; shift >= 0 && length < ROOM; shift -= 8) {
                text[length] = (byte) (number >> shift);
                length++;
            }
        }

        int length() {
            return length;
        }

        int faultFound() {
            return found;
        }

        int faultPlace() {
            return place;
        }

        /** Whether the first n bytes are a DESK, now told to this one; THE TAPE is empty then. */
        boolean reads(int n, Desk desk) {
            end = Math.max(0, Math.min(n, length));
            length = 0;
            at = 0;
            found = 0;
            place = NONE;
            desk.clear();
            // Every LINE takes a byte at least, so there are no more LINES than bytes.
            for (int lines = 0; lines <= end; lines++) {
                int sort = readsSort(desk);
                if (sort == NONE || !readsRow(sort)) {
                    return false;
                }
                desk.add(sort, row);
                skipBlanks();
                if (at >= end) {
                    return desk.count(BARS) > 0 || fails(LACKS, at);
                }
                if (text[at] != ';') {
                    return fails(FORM, at);
                }
                at++;
            }
            return fails(FORM, end);
        }

        private boolean fails(int fault, int where) {
            found = fault;
            place = where;
            return false;
        }

        /** The sort of the LINE that begins here; NONE by a FAULT. */
        private int readsSort(Desk desk) {
            skipBlanks();
            int first = at;
            for (int sort = 0; sort < SORTS; sort++) {
                if (takesWord(lineWord(sort))) {
                    if (desk.isFull(sort)) {
                        fails(MANY, first);
                        return NONE;
                    }
                    return sort;
                }
            }
            fails(FORM, first);
            return NONE;
        }

        private static String lineWord(int sort) {
            switch (sort) {
                case BARS: return "bars";
                case TRACERS: return "tracer";
                case POINTS: return "point";
                default: return "pair";
            }
        }

        private static String barWord(int i) {
            switch (i) {
                case 0: return "ground";
                case 1: return "crank";
                case 2: return "rod";
                default: return "arm";
            }
        }

        private boolean readsRow(int sort) {
            switch (sort) {
                case BARS: return readsBars();
                case TRACERS: return readsTwo(20);
                case POINTS: return readsTwo(999);
                default: return readsAngle(0) && readsAngle(2);
            }
        }

        private boolean readsBars() {
            for (int i = 0; i < row.length; i++) {
                skipBlanks();
                if (!takesWord(barWord(i))) {
                    return fails(FORM, at);
                }
                if (!readsWhole(i, 1, LONGEST_BAR)) {
                    return false;
                }
            }
            return true;
        }

        private boolean readsTwo(int most) {
            return readsSigned(0, most) && readsSigned(1, most);
        }

        private boolean readsAngle(int i) {
            // Behind a p of 0 a q of 0 would be no ANGLE.
            return readsSigned(i, Turn.BOUND)
                && readsWhole(i + 1, row[i] == 0 ? 1 : 0, Turn.BOUND);
        }

        private boolean readsSigned(int i, int most) {
            skipBlanks();
            boolean below = at < end && text[at] == '-';
            if (below) {
                at++;
            }
            boolean fits = readsWhole(i, 0, most);
            if (below) {
                row[i] = -row[i];
            }
            return fits;
        }

        private boolean readsWhole(int i, int least, int most) {
            skipBlanks();
            int first = at;
            int value = 0;
            while (at < end && at - first <= DIGITS && isDigit(text[at])) {
                value = value * 10 + (text[at] - '0');
                at++;
            }
            if (at == first || at - first > DIGITS) {
                return fails(FORM, first);
            }
            if (value < least || value > most) {
                return fails(BOUNDS, first);
            }
            row[i] = value;
            return true;
        }

        /** Goes behind a WORD if it stands here whole; else stays. */
        private boolean takesWord(String word) {
            int behind = at + word.length();
            if (behind > end || (behind < end && isLetter(text[behind]))) {
                return false;
            }
            for (int i = 0; i < word.length(); i++) {
                if (text[at + i] != word.charAt(i)) {
                    return false;
                }
            }
            at = behind;
            return true;
        }

        private void skipBlanks() {
            while (at < end && text[at] == ' ') {
                at++;
            }
        }

        private static boolean isDigit(int sign) {
            return sign >= '0' && sign <= '9';
        }

        private static boolean isLetter(int sign) {
            return sign >= 'a' && sign <= 'z';
        }
    }

    /** Four bars and what their lengths alone tell. */
    private static final class Linkage {
        int g = 1;
        int a = 1;
        int b = 1;
        int c = 1;

        void take(Desk desk, int l) {
            g = desk.told(BARS, l, 0);
            a = desk.told(BARS, l, 1);
            b = desk.told(BARS, l, 2);
            c = desk.told(BARS, l, 3);
        }

        private int together() {
            return g + a + b + c;
        }

        private int greatest() {
            return Math.max(Math.max(g, a), Math.max(b, c));
        }

        private int smallest() {
            return Math.min(Math.min(g, a), Math.min(b, c));
        }

        int middleLessOuter() {
            return together() - 2 * (greatest() + smallest());
        }

        boolean canBeBuilt() {
            return 2 * greatest() <= together();
        }

        int sortOf() {
            if (!canBeBuilt()) {
                return 5;
            }
            int sums = middleLessOuter();
            if (sums <= 0) {
                return sums == 0 ? 4 : 6;
            }
            int smallest = smallest();
            if (a == smallest) {
                return 0;
            }
            if (g == smallest) {
                return 1;
            }
            return b == smallest ? 2 : 3;
        }

        boolean goesRound(int joint) {
            switch (joint) {
                case 0: return turnsFully(a, g, b, c);
                case 1: return turnsFully(b, a, g, c);
                case 2: return turnsFully(c, b, g, a);
                default: return turnsFully(g, c, a, b);
            }
        }

        private static boolean turnsFully(int o, int w, int s, int t) {
            return Math.abs(s - t) <= Math.abs(o - w) && o + w <= s + t;
        }

        /** What all cosines of the crank are told by: each of them is a whole number by this. */
        int cosineUnit() {
            return 2 * g * a;
        }

        private int stretchedCosine() {
            return g * g + a * a - (b + c) * (b + c);
        }

        private int foldedCosine() {
            return g * g + a * a - (b - c) * (b - c);
        }

        int leastCosine() {
            return Math.max(-cosineUnit(), stretchedCosine());
        }

        int greatestCosine() {
            return Math.min(cosineUnit(), foldedCosine());
        }

        boolean hasCosines() {
            return leastCosine() <= greatestCosine();
        }

        private boolean isEnd(int cosine) {
            return cosine >= -cosineUnit() && cosine <= cosineUnit();
        }

        int endCount() {
            // b and c are above 0, so the two are never one.
            return (isEnd(stretchedCosine()) ? 1 : 0) + (isEnd(foldedCosine()) ? 1 : 0);
        }

        int endsBehind(int k) {
            return (isEndBehind(stretchedCosine(), k) ? 1 : 0) + (isEndBehind(foldedCosine(), k) ? 1 : 0);
        }

        private boolean isEndBehind(int cosine, int k) {
            return isEnd(cosine) && sideOf(cosine, k) * sideOf(cosine, Turn.behind(k)) < 0;
        }

        private int sideOf(int cosine, int k) {
            int p = Turn.rise(k);
            int q = Turn.run(k);
            return Integer.compare(cosine * Turn.norm(p, q), cosineUnit() * Turn.cosine(p, q));
        }

        int arcCount() {
            if (!hasCosines()) {
                return 0;
            }
            return leastCosine() == -cosineUnit() || greatestCosine() == cosineUnit() ? 1 : 2;
        }

        boolean isByBranches() {
            return hasCosines() && goesRound(0) && endCount() == 0;
        }

        int circuitCount() {
            return isByBranches() ? 2 : arcCount();
        }

        int swingUpper(int cosine) {
            return b * b + c * c - g * g - a * a + cosine;
        }

        int swingLower() {
            return 2 * b * c;
        }
    }

    /** A LINKAGE at an ANGLE; the letters are the document's. */
    private static final class Position {
        static final int SHUT = 0;
        static final int OPEN = 1;
        static final int DEAD = 2;

        long n = 1;
        long d = 0;
        long s = 0;
        long k = 0;
        private long g = 1;
        private long a = 1;
        private long b = 1;
        private long c = 1;
        private long cosine = 1;
        private long e = 0;
        private long x = 0;
        private long y = 0;
        private long alongX = 0;
        private long acrossX = 0;
        private long alongY = 0;
        private long acrossY = 0;

        void set(Linkage linkage, int angle) {
            g = linkage.g;
            a = linkage.a;
            b = linkage.b;
            c = linkage.c;
            int p = Turn.rise(angle);
            int q = Turn.run(angle);
            n = Turn.norm(p, q);
            cosine = Turn.cosine(p, q);
            d = Turn.sine(p, q);
            s = (g * g + a * a) * n - 2 * g * a * cosine;
            e = s + (b * b - c * c) * n;
            k = 4 * b * b * s * n - e * e;
            x = g * n - a * cosine;
            y = -a * d;
        }

        boolean isLawful() {
            return s > 0 && k >= 0;
        }

        int state() {
            if (!isLawful()) {
                return SHUT;
            }
            return k == 0 ? DEAD : OPEN;
        }

        private static long signOf(int branch) {
            return branch == 0 ? 1 : -1;
        }

        long jointX(int branch, int what) {
            return Wholes.reducedOf(2 * a * cosine * s + e * x, -y * signOf(branch), 2 * s * n, what);
        }

        long jointY(int branch, int what) {
            return Wholes.reducedOf(2 * a * d * s + e * y, x * signOf(branch), 2 * s * n, what);
        }

        /**
         * Sets what a TRACER traces here: ten times x is (along + across root of K) by 2 S N, so is y.
         */
        void trace(int tracerM, int tracerN, int branch) {
            long ahead = tracerM * x - tracerN * y;
            long aside = tracerM * y + tracerN * x;
            alongX = 20 * a * cosine * s + e * ahead;
            acrossX = -aside * signOf(branch);
            alongY = 20 * a * d * s + e * aside;
            acrossY = ahead * signOf(branch);
        }

        int tenthsX() {
            return (int) Wholes.floorOf(alongX, acrossX, k, 2 * s * n);
        }

        int tenthsY() {
            return (int) Wholes.floorOf(alongY, acrossY, k, 2 * s * n);
        }

        boolean isExactlyAt(int tenthsX, int tenthsY) {
            long w = 2 * s * n;
            return Wholes.isWhole(alongX, acrossX, k, w * tenthsX)
                && Wholes.isWhole(alongY, acrossY, k, w * tenthsY);
        }

        long forceUpper() {
            return (b * b + c * c) * n - s;
        }

        long forceLower() {
            return 2 * b * c * n;
        }

        /**
         * RATE's lower part is the root of K by -2 N alone, so that RATE, made whole by that root, is
         * a ((a N - g C) K + g D E R) by S K.
         */
        long turning(int branch, int what) {
            long u = a * (a * n - g * cosine) * k;
            long v = a * g * d * e * signOf(branch);
            return Wholes.reducedOf(u, v, s * k, what);
        }
    }

    /** The points of a CURVE, in order. */
    private static final class Curve {
        private final int[] xs = new int[Turn.COUNT];
        private final int[] ys = new int[Turn.COUNT];
        private final int[] numbers = new int[Turn.COUNT];
        private final int[] sorted = new int[Turn.COUNT];
        private final int[] chain = new int[2 * Turn.COUNT + 1];
        private int count = 0;
        private int places = 0;
        private int corners = 0;
        private int runFrom = 0;
        private int runCount = 0;

        void empty() {
            count = 0;
        }

        void add(int x, int y, int number) {
            if (count < Turn.COUNT) {
                xs[count] = x;
                ys[count] = y;
                numbers[count] = number;
                count++;
            }
        }

        boolean isEmpty() {
            return count == 0;
        }

        int length() {
            return count;
        }

        int extreme(int what) {
            int[] row = what < 2 ? xs : ys;
            int found = row[0];
            for (int i = 1; i < count; i++) {
                found = (what & 1) == 0 ? Math.min(found, row[i]) : Math.max(found, row[i]);
            }
            return found;
        }

        private int next(int i) {
            return i + 1 < count ? i + 1 : 0;
        }

        private long crossed(int i, int j) {
            return (long) xs[i] * ys[j] - (long) xs[j] * ys[i];
        }

        long edgeSum() {
            long sum = 0;
            for (int i = 0; i < count; i++) {
                sum += crossed(i, next(i));
            }
            return sum;
        }

        /** Above 0 where the way from i by j to k turns left, below 0 where right, 0 on a line. */
        private long bend(int i, int j, int k) {
            return (long) (xs[j] - xs[i]) * (ys[k] - ys[i]) - (long) (ys[j] - ys[i]) * (xs[k] - xs[i]);
        }

        private boolean parts(int i, int j, int from, int to) {
            long one = bend(i, j, from);
            long other = bend(i, j, to);
            return (one > 0 && other < 0) || (one < 0 && other > 0);
        }

        int cutCount() {
            int cuts = 0;
            for (int i = 0; i < count; i++) {
                // The EDGE behind i has a point in common with i's, and so has the one ahead of it.
                for (int j = i + 2; j < count; j++) {
                    if (next(j) != i && parts(i, next(i), j, next(j)) && parts(j, next(j), i, next(i))) {
                        cuts++;
                    }
                }
            }
            return cuts;
        }

        /** Finds HULL, from the lowest of the leftmost along the lower side, back along the upper. */
        int wrap() {
            sortPlaces();
            corners = 0;
            for (int i = 0; i < places; i++) {
                putCorner(sorted[i], 0);
            }
            int kept = corners - 1;
            for (int i = places - 2; i >= 0; i--) {
                putCorner(sorted[i], kept);
            }
            // The way back ends where the way began.
            if (corners > 1) {
                corners--;
            }
            return corners;
        }

        private void putCorner(int i, int kept) {
            while (corners >= kept + 2 && bend(chain[corners - 2], chain[corners - 1], i) <= 0) {
                corners--;
            }
            if (corners < chain.length) {
                chain[corners] = i;
                corners++;
            }
        }

        /** By x, then y; of points in one place the first in order alone. */
        private void sortPlaces() {
            places = 0;
            for (int i = 0; i < count; i++) {
                int at = places;
                while (at > 0 && isLess(i, sorted[at - 1])) {
                    at--;
                }
                if (at == 0 || isLess(sorted[at - 1], i)) {
                    System.arraycopy(sorted, at, sorted, at + 1, places - at);
                    sorted[at] = i;
                    places++;
                }
            }
        }

        private boolean isLess(int i, int j) {
            return xs[i] < xs[j] || (xs[i] == xs[j] && ys[i] < ys[j]);
        }

        int cornerAngle(int j) {
            return j >= 0 && j < corners ? numbers[chain[j]] : NONE;
        }

        long wrappedTwice() {
            long sum = 0;
            for (int j = 0; j < corners; j++) {
                sum += crossed(chain[j], chain[j + 1 < corners ? j + 1 : 0]);
            }
            return sum;
        }

        /** Looks for the longest first, so that the first one found is STRAIGHT. */
        void findRun(int h) {
            for (int length = count; length > 0; length--) {
                for (int from = 0; from + length <= count; from++) {
                    if (isRun(from, from + length - 1, h)) {
                        runFrom = from;
                        runCount = length;
                        return;
                    }
                }
            }
            runCount = 0;
        }

        private boolean isRun(int from, int to, int h) {
            long reach = (long) h * h;
            long square = squareFrom(from, xs[to], ys[to]);
            for (int i = from + 1; i < to; i++) {
                long off = bend(from, to, i);
                boolean far = square == 0
                    ? squareFrom(i, xs[from], ys[from]) > reach
                    : off * off > reach * square;
                if (far) {
                    return false;
                }
            }
            return true;
        }

        int runLength() {
            return runCount;
        }

        int runAngle() {
            return runCount > 0 ? numbers[runFrom] : NO_WAY;
        }

        private int squareFrom(int i, int x, int y) {
            return (xs[i] - x) * (xs[i] - x) + (ys[i] - y) * (ys[i] - y);
        }

        int leastMiss(int x, int y) {
            int found = squareFrom(0, x, y);
            for (int i = 1; i < count; i++) {
                found = Math.min(found, squareFrom(i, x, y));
            }
            return found;
        }

        int angleByMiss(int x, int y, int place) {
            for (int i = 0; i < count; i++) {
                if (placeByMiss(i, x, y) == place) {
                    return numbers[i];
                }
            }
            return NONE;
        }

        private int placeByMiss(int i, int x, int y) {
            int own = squareFrom(i, x, y);
            int nearer = 0;
            for (int j = 0; j < count; j++) {
                int other = squareFrom(j, x, y);
                if (other < own || (other == own && j < i)) {
                    nearer++;
                }
            }
            return nearer;
        }
    }

    /** The PAIRS of a DESK as whole numbers over N N', and the bars that fit them. */
    private static final class Pairs {
        private static final int ROOM = 4;

        private final long[] ofCrank = new long[ROOM];
        private final long[] ofArm = new long[ROOM];
        private final long[] ofBoth = new long[ROOM];
        private final long[] ofAll = new long[ROOM];
        private final long[] lows = new long[LONGEST_BAR + 1];
        private final long[] highs = new long[LONGEST_BAR + 1];
        private int count = 0;
        private int fittedGround = 0;
        private int foundCrank = 0;
        private int foundRod = 0;
        private int foundArm = 0;
        private long unit = 1;
        private long fewest = 0;

        void take(Desk desk) {
            count = Math.min(desk.count(PAIRS), ROOM);
            fittedGround = 0;
            unit = 1;
            for (int i = 0; i < count; i++) {
                int p = desk.told(PAIRS, i, 0);
                int q = desk.told(PAIRS, i, 1);
                int armP = desk.told(PAIRS, i, 2);
                int armQ = desk.told(PAIRS, i, 3);
                ofCrank[i] = Turn.cosine(p, q) * Turn.norm(armP, armQ);
                ofArm[i] = Turn.cosine(armP, armQ) * Turn.norm(p, q);
                ofBoth[i] = Turn.cosine(p, q) * Turn.cosine(armP, armQ) + Turn.sine(p, q) * Turn.sine(armP, armQ);
                ofAll[i] = Turn.norm(p, q) * Turn.norm(armP, armQ);
                unit *= ofAll[i];
            }
        }

        long closingUpper(int i, Linkage by) {
            if (i < 0 || i >= count) {
                return 0;
            }
            return withoutRod(i, by.g, by.a, by.c) - (long) by.b * by.b * ofAll[i];
        }

        long closingLower(int i) {
            return i >= 0 && i < count ? ofAll[i] : 1;
        }

        private long withoutRod(int i, long g, long a, long c) {
            return (g * g + a * a + c * c) * ofAll[i] - 2 * g * a * ofCrank[i]
                + 2 * g * c * ofArm[i] - 2 * a * c * ofBoth[i];
        }

        /** FIT hangs on the PAIRS and g alone, so it is looked for once for each g. */
        void findBars(int ground) {
            if (ground == fittedGround) {
                return;
            }
            fittedGround = ground;
            fewest = LOWEST;
            for (int crank = 1; crank <= LONGEST_BAR; crank++) {
                findBounds(ground, crank);
                findRodAndArm(crank);
            }
        }

        /**
         * The rod takes the same from the CLOSINGS of all PAIRS, so of a crank and an arm only the least
         * and the greatest CLOSING without a rod count. All are told by one unit, to be compared.
         */
        private void findBounds(int ground, int crank) {
            for (int arm = 1; arm <= LONGEST_BAR; arm++) {
                for (int i = 0; i < count; i++) {
                    long part = ofAll[i] > 0 ? unit / ofAll[i] : 0;
                    long value = withoutRod(i, ground, crank, arm) * part;
                    lows[arm] = i == 0 ? value : Math.min(lows[arm], value);
                    highs[arm] = i == 0 ? value : Math.max(highs[arm], value);
                }
            }
        }

        private void findRodAndArm(int crank) {
            for (int rod = 1; rod <= LONGEST_BAR; rod++) {
                long taken = rod * rod * unit;
                for (int arm = 1; arm <= LONGEST_BAR; arm++) {
                    long greatest = Math.max(highs[arm] - taken, taken - lows[arm]);
                    if (fewest == LOWEST || greatest < fewest) {
                        fewest = greatest;
                        foundCrank = crank;
                        foundRod = rod;
                        foundArm = arm;
                    }
                }
            }
        }

        int foundBar(int what) {
            if (what == 0) {
                return foundCrank;
            }
            return what == 1 ? foundRod : foundArm;
        }

        long foundUpper() {
            return fewest;
        }

        long foundLower() {
            return unit;
        }

        /** Of the rows of THREE; with a column (0 u, 1 v, 2 w) put in for by what they are to be. */
        long determinant(int put) {
            return cell(0, 0, put) * minor(1, 2, put) - cell(0, 1, put) * minor(0, 2, put)
                + cell(0, 2, put) * minor(0, 1, put);
        }

        private long minor(int left, int right, int put) {
            return cell(1, left, put) * cell(2, right, put) - cell(1, right, put) * cell(2, left, put);
        }

        private long cell(int i, int column, int put) {
            if (column == put) {
                return ofBoth[i];
            }
            if (column == 0) {
                return ofArm[i];
            }
            return column == 1 ? -ofCrank[i] : ofAll[i];
        }
    }

    /** THE WALK, with what it knows of its LINKAGE's ANGLES. */
    private static final class Walk {
        private static final int NODES = 2 * Turn.COUNT;

        private final int[] states = new int[Turn.COUNT];
        private final int[] moves = new int[NODES];
        private final int[] line = new int[NODES];
        private int lined = 0;
        private int ofLinkage = NONE;
        private int number = 0;
        private int side = 0;
        private int done = 0;

        boolean isOn() {
            return ofLinkage != NONE;
        }

        void stop() {
            ofLinkage = NONE;
        }

        void learn(int k, int state) {
            if (Turn.has(k)) {
                states[k] = state;
            }
        }

        void start(int l, int k, int branch) {
            ofLinkage = l;
            number = Turn.has(k) ? k : 0;
            side = branch == 0 ? 0 : 1;
            done = 0;
        }

        int told(int what) {
            switch (what) {
                case 0: return ofLinkage;
                case 1: return number;
                case 2: return side;
                default: return done;
            }
        }

        int go(int most, boolean back) {
            for (int went = 0; went < most; went++) {
                int to = back ? Turn.ahead(number) : Turn.behind(number);
                if (states[to] == Position.SHUT) {
                    return went;
                }
                number = to;
                done++;
            }
            return most;
        }

        boolean isAtDead() {
            return states[number] == Position.DEAD;
        }

        int change() {
            side = 1 - side;
            done++;
            return side;
        }

        int fewestTo(int k, int branch) {
            Arrays.fill(moves, NO_WAY);
            lined = 0;
            reach(number, side, 0);
            for (int i = 0; i < lined; i++) {
                int at = line[i] / 2;
                int on = line[i] % 2;
                int more = moves[line[i]] + 1;
                reach(Turn.behind(at), on, more);
                reach(Turn.ahead(at), on, more);
                if (states[at] == Position.DEAD) {
                    reach(at, 1 - on, more);
                }
            }
            return Turn.has(k) ? moves[2 * k + (branch == 0 ? 0 : 1)] : NO_WAY;
        }

        private void reach(int k, int branch, int after) {
            int node = 2 * k + branch;
            if (states[k] != Position.SHUT && moves[node] == NO_WAY && lined < NODES) {
                moves[node] = after;
                line[lined] = node;
                lined++;
            }
        }
    }

    /** The latest ACTS, around a ring. */
    private static final class Acts {
        private static final int KEPT = 10;

        private final int[] linkages = new int[KEPT];
        private final int[] bars = new int[KEPT];
        private final int[] lengths = new int[KEPT];
        private int first = 0;
        private int kept = 0;

        int count() {
            return kept;
        }

        void forget() {
            kept = 0;
        }

        void keep(int l, int i, int length) {
            int at = (first + kept) % KEPT;
            linkages[at] = l;
            bars[at] = i;
            lengths[at] = length;
            if (kept < KEPT) {
                kept++;
            } else {
                first = (first + 1) % KEPT;
            }
        }

        void takeBack(Desk desk) {
            if (kept > 0) {
                kept--;
                int at = (first + kept) % KEPT;
                desk.changeBar(linkages[at], bars[at], lengths[at]);
            }
        }
    }
}
