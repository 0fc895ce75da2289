import java.util.ArrayList;
import java.util.Arrays;
import java.util.Comparator;
import java.util.List;
import java.util.NoSuchElementException;
import java.util.TreeSet;

/**
 * The document written out a second time, slowly and by other ways (fractions without bounds, search,
 * relaxation), for runs in which both must answer alike.
 */
final class Model {
  private static final int NONE = -1;
  private static final int NOTHING = -1000000000;
  private static final long LOW = Long.MIN_VALUE;

  private final StringBuilder tape = new StringBuilder();
  private ModelText desk = null;
  private int trouble = 0;
  private int fault = 0;
  private int where = NONE;
  private final List<int[]> acts = new ArrayList<>();
  private int[] walk = null;
  private final List<int[]> turn = new ArrayList<>();

  Model() {
    TreeSet<Frac> tangents = new TreeSet<>();
    for (int p = -5; p <= 5; p++) {
      for (int q = 1; q <= 5; q++) {
        tangents.add(Frac.of(p, q));
      }
    }
    for (Frac t : tangents) {
      turn.add(new int[] {t.up.intValue(), t.down.intValue()});
    }
    turn.add(new int[] {1, 0});
  }

  // ---- the desk

  int feed(int a, int b, int c, int d, int e) {
    if (tape.length() > 680) {
      return NONE;
    }
    for (int number : new int[] {a, b, c, d, e}) {
      for (int i = 3; i >= 0; i--) {
        tape.append((char) (number >> 8 * i & 255));
      }
    }
    return tape.length();
  }

  int desk(int n) {
    if (n < 0 || n > tape.length()) {
      return (int) no(2, NONE);
    }
    ModelText read = new ModelText(tape.substring(0, n));
    tape.setLength(0);
    fault = read.fault;
    where = read.place;
    if (fault != 0) {
      return (int) no(4, NONE);
    }
    trouble = 0;
    desk = read;
    walk = null;
    acts.clear();
    return desk.bars.size();
  }

  int fault() {
    return fault;
  }

  int where() {
    return trouble == 4 ? where : NONE;
  }

  // ---- the turn

  int angles() {
    return turn.size();
  }

  int angle(int k, int what) {
    return isAngle(k) && of(what, 2) ? (int) yes(turn.get(k)[what]) : (int) no(1, NOTHING);
  }

  int which(int p, int q) {
    if (Math.abs((long) p) > 5 || Math.abs((long) q) > 5 || p == 0 && q == 0) {
      return (int) no(2, NONE);
    }
    trouble = 0;
    if (q == 0) {
      return turn.size() - 1;
    }
    for (int k = 0; k < turn.size() - 1; k++) {
      if (Frac.of(p, q).compareTo(Frac.of(turn.get(k)[0], turn.get(k)[1])) == 0) {
        return k;
      }
    }
    throw new IllegalStateException("not in the turn");
  }

  // ---- linkages

  int bar(int l, int i) {
    return isLinkage(l) && of(i, 4) ? (int) yes(desk.bars.get(l)[i]) : (int) no(1, NONE);
  }

  int sums(int l) {
    if (!isLinkage(l)) {
      return (int) no(1, NOTHING);
    }
    int[] s = sorted(l);
    return (int) yes(s[1] + s[2] - s[0] - s[3]);
  }

  int kind(int l) {
    if (!isLinkage(l)) {
      return (int) no(1, NONE);
    }
    trouble = 0;
    if (!isBuilt(l)) {
      return 5;
    }
    int[] s = sorted(l);
    int sums = s[1] + s[2] - s[0] - s[3];
    if (sums == 0) {
      return 4;
    }
    if (sums < 0) {
      return 6;
    }
    int[] bars = desk.bars.get(l);
    int[] kinds = {1, 0, 2, 3};
    for (int i = 0; i < 4; i++) {
      if (bars[i] == s[0]) {
        return kinds[i];
      }
    }
    throw new IllegalStateException();
  }

  int round(int l, int joint) {
    if (!isLinkage(l) || !of(joint, 4)) {
      return (int) no(1, NONE);
    }
    return (int) yes(goesRound(desk.bars.get(l), joint) ? 1 : 0);
  }

  private static boolean goesRound(int[] v, int joint) {
    int[][] rows = {{1, 0, 2, 3}, {2, 1, 0, 3}, {3, 2, 0, 1}, {0, 3, 1, 2}};
    int o = v[rows[joint][0]];
    int w = v[rows[joint][1]];
    int s = v[rows[joint][2]];
    int t = v[rows[joint][3]];
    return Math.abs(s - t) <= Math.abs(o - w) && o + w <= s + t;
  }

  long least(int l, boolean lower) {
    if (!isLinkage(l)) {
      return no(1, LOW);
    }
    return hasCosines(l) ? yes(leastOf(l).told(lower)) : no(5, LOW);
  }

  long most(int l, boolean lower) {
    if (!isLinkage(l)) {
      return no(1, LOW);
    }
    return hasCosines(l) ? yes(mostOf(l).told(lower)) : no(5, LOW);
  }

  int ends(int l) {
    return isLinkage(l) ? (int) yes(endsOf(l).size()) : (int) no(1, NONE);
  }

  int arcs(int l) {
    return isLinkage(l) ? (int) yes(arcsOf(l)) : (int) no(1, NONE);
  }

  int circuits(int l) {
    if (!isLinkage(l)) {
      return (int) no(1, NONE);
    }
    trouble = 0;
    if (!hasCosines(l)) {
      return 0;
    }
    return goesRound(desk.bars.get(l), 0) && endsOf(l).isEmpty() ? 2 : arcsOf(l);
  }

  private Frac own(int l, int sign) {
    int[] v = desk.bars.get(l);
    int s = v[2] + sign * v[3];
    return Frac.of(v[0] * v[0] + v[1] * v[1] - s * s, 2L * v[0] * v[1]);
  }

  private Frac leastOf(int l) {
    Frac f = own(l, 1);
    return f.compareTo(Frac.of(-1)) > 0 ? f : Frac.of(-1);
  }

  private Frac mostOf(int l) {
    Frac f = own(l, -1);
    return f.compareTo(Frac.ONE) < 0 ? f : Frac.ONE;
  }

  private boolean hasCosines(int l) {
    return leastOf(l).compareTo(mostOf(l)) <= 0;
  }

  private TreeSet<Frac> endsOf(int l) {
    TreeSet<Frac> ends = new TreeSet<>();
    for (int sign = -1; sign <= 1; sign += 2) {
      if (own(l, sign).abs().compareTo(Frac.ONE) <= 0) {
        ends.add(own(l, sign));
      }
    }
    return ends;
  }

  private int arcsOf(int l) {
    if (!hasCosines(l)) {
      return 0;
    }
    return leastOf(l).compareTo(Frac.of(-1)) == 0 || mostOf(l).compareTo(Frac.ONE) == 0 ? 1 : 2;
  }

  // ---- positions

  int lawful(int l, int k) {
    return isLinkage(l) && isAngle(k) ? (int) yes(new ModelSpot(this, l, k).state) : (int) no(1, NONE);
  }

  int lawfuls(int l) {
    return isLinkage(l) ? (int) yes(lawfulAngles(l).size()) : (int) no(1, NONE);
  }

  int deads(int l) {
    if (!isLinkage(l)) {
      return (int) no(1, NONE);
    }
    return (int) yes(lawfulAngles(l).stream().filter(k -> new ModelSpot(this, l, k).state == 2).count());
  }

  int between(int l, int k) {
    if (!isLinkage(l) || !isAngle(k)) {
      return (int) no(1, NONE);
    }
    Frac one = cosine(turn.get(k));
    Frac two = cosine(turn.get((k + 1) % turn.size()));
    Frac low = one.compareTo(two) < 0 ? one : two;
    Frac high = low == one ? two : one;
    return (int) yes(endsOf(l).stream()
        .filter(f -> f.compareTo(low) > 0 && f.compareTo(high) < 0).count());
  }

  static Frac cosine(int[] angle) {
    int p = angle[0];
    int q = angle[1];
    return Frac.of(q * q - p * p, p * p + q * q);
  }

  static Frac sine(int[] angle) {
    int p = angle[0];
    int q = angle[1];
    return Frac.of(2 * p * q, p * p + q * q);
  }

  long span(int l, int k, boolean lower) {
    if (!isLinkage(l) || !isAngle(k)) {
      return no(1, -1);
    }
    int[] v = desk.bars.get(l);
    Frac x = cosine(turn.get(k)).times(v[1]).minus(Frac.of(v[0]));
    Frac y = sine(turn.get(k)).times(v[1]);
    return yes(x.times(x).plus(y.times(y)).told(lower));
  }

  long under(int l, int k) {
    return isLinkage(l) && isAngle(k) ? yes(new ModelSpot(this, l, k).k) : no(1, LOW);
  }

  int joint(int l, int k, int branch, int what) {
    if (!isPosition(l, k, branch) || !of(what, 2)) {
      return (int) no(1, NOTHING);
    }
    ModelSpot at = new ModelSpot(this, l, k);
    return at.state == 0 ? (int) no(5, NOTHING) : (int) yes(at.joint(branch)[what].times(10).floor());
  }

  long exact(int l, int k, int branch, int what) {
    if (!isPosition(l, k, branch) || !of(what, 6)) {
      return no(1, LOW);
    }
    ModelSpot at = new ModelSpot(this, l, k);
    return at.state == 0 ? no(5, LOW) : yes(at.joint(branch)[what / 3].told(what % 3));
  }

  int circuit(int l, int k, int branch) {
    if (!isPosition(l, k, branch)) {
      return (int) no(1, NONE);
    }
    if (new ModelSpot(this, l, k).state == 0) {
      return (int) no(5, NONE);
    }
    trouble = 0;
    if (goesRound(desk.bars.get(l), 0) && endsOf(l).isEmpty()) {
      return branch;
    }
    return arcsOf(l) == 2 && sine(turn.get(k)).signum() < 0 ? 1 : 0;
  }

  long force(int l, int k, boolean lower) {
    if (!isLinkage(l) || !isAngle(k)) {
      return no(1, LOW);
    }
    ModelSpot at = new ModelSpot(this, l, k);
    return at.state == 0 ? no(5, LOW) : yes(at.force().told(lower));
  }

  int easiest(int l) {
    if (!isLinkage(l)) {
      return (int) no(1, NONE);
    }
    return (int) yes(lawfulAngles(l).stream()
        .min(Comparator.comparing((Integer k) -> new ModelSpot(this, l, k).force().abs())
            .thenComparing(Comparator.naturalOrder())).orElse(-2));
  }

  long swing(int l, boolean most, boolean lower) {
    if (!isLinkage(l)) {
      return no(1, LOW);
    }
    if (!hasCosines(l)) {
      return no(5, LOW);
    }
    int[] v = desk.bars.get(l);
    Frac z = most ? mostOf(l) : leastOf(l);
    Frac up = Frac.of(v[2] * v[2] + v[3] * v[3] - v[0] * v[0] - v[1] * v[1]).plus(z.times(2L * v[0] * v[1]));
    return yes(up.by(Frac.of(2L * v[2] * v[3])).told(lower));
  }

  long rate(int l, int k, int branch, int what) {
    if (!isPosition(l, k, branch) || !of(what, 3)) {
      return no(1, LOW);
    }
    ModelSpot at = new ModelSpot(this, l, k);
    return at.state != 1 ? no(5, LOW) : yes(at.rate(branch).told(what));
  }

  // ---- curves

  int tracer(int i, int what) {
    return isTracer(i) && of(what, 2) ? (int) yes(desk.tracers.get(i)[what]) : (int) no(1, NOTHING);
  }

  int point(int i, int what) {
    return isPoint(i) && of(what, 2) ? (int) yes(desk.points.get(i)[what]) : (int) no(1, NOTHING);
  }

  int traced(int l, int i, int k, int branch, int what) {
    if (!isPosition(l, k, branch) || !isTracer(i) || !of(what, 2)) {
      return (int) no(1, NOTHING);
    }
    ModelSpot at = new ModelSpot(this, l, k);
    return at.state == 0 ? (int) no(5, NOTHING)
        : (int) yes(at.traced(desk.tracers.get(i), branch)[what].floor());
  }

  private boolean isCurve(int l, int i, int branch) {
    return isLinkage(l) && isTracer(i) && of(branch, 2);
  }

  private ModelCurve curve(int l, int i, int branch) {
    return new ModelCurve(this, l, desk.tracers.get(i), branch);
  }

  int box(int l, int i, int branch, int what) {
    if (!isCurve(l, i, branch) || !of(what, 4)) {
      return (int) no(1, NOTHING);
    }
    ModelCurve at = curve(l, i, branch);
    return at.points.isEmpty() ? (int) no(5, NOTHING) : (int) yes(at.box(what));
  }

  long area(int l, int i, int branch) {
    return isCurve(l, i, branch) ? yes(curve(l, i, branch).area()) : no(1, LOW);
  }

  int crossings(int l, int i, int branch) {
    return isCurve(l, i, branch) ? (int) yes(curve(l, i, branch).crossings()) : (int) no(1, NONE);
  }

  int hull(int l, int i, int branch) {
    return isCurve(l, i, branch) ? (int) yes(curve(l, i, branch).hull().size()) : (int) no(1, NONE);
  }

  int corner(int l, int i, int branch, int j) {
    if (!isCurve(l, i, branch)) {
      return (int) no(1, NONE);
    }
    List<int[]> hull = curve(l, i, branch).hull();
    return of(j, hull.size()) ? (int) yes(hull.get(j)[2]) : (int) no(1, NONE);
  }

  long hullArea(int l, int i, int branch) {
    return isCurve(l, i, branch) ? yes(curve(l, i, branch).hullArea()) : no(1, -1);
  }

  int straight(int l, int i, int branch, int h) {
    if (!isCurve(l, i, branch)) {
      return (int) no(1, NONE);
    }
    return of(h, 101) ? (int) yes(curve(l, i, branch).straight(h)[0]) : (int) no(2, NONE);
  }

  int straightFrom(int l, int i, int branch, int h) {
    if (!isCurve(l, i, branch)) {
      return (int) no(1, NONE);
    }
    return of(h, 101) ? (int) yes(curve(l, i, branch).straight(h)[1]) : (int) no(2, NONE);
  }

  int near(int l, int i, int branch, int point, int place) {
    if (!isCurve(l, i, branch) || !isPoint(point)) {
      return (int) no(1, NONE);
    }
    List<int[]> points = curve(l, i, branch).byMiss(desk.points.get(point));
    return of(place, points.size()) ? (int) yes(points.get(place)[2]) : (int) no(1, NONE);
  }

  int miss(int l, int i, int branch, int point) {
    if (!isCurve(l, i, branch) || !isPoint(point)) {
      return (int) no(1, NONE);
    }
    ModelCurve at = curve(l, i, branch);
    return at.points.isEmpty() ? (int) no(5, NONE) : (int) yes(at.leastMiss(desk.points.get(point)));
  }

  int met(int l, int i, int branch, int point) {
    if (!isCurve(l, i, branch) || !isPoint(point)) {
      return (int) no(1, NONE);
    }
    trouble = 0;
    for (int k : lawfulAngles(l)) {
      Surd[] at = new ModelSpot(this, l, k).traced(desk.tracers.get(i), branch);
      boolean meets = true;
      for (int w = 0; w < 2; w++) {
        Frac told = Frac.of(desk.points.get(point)[w]);
        meets = meets && at[w].minus(Surd.of(told, at[w].k)).signum() == 0;
      }
      if (meets) {
        return k;
      }
    }
    return -2;
  }

  int best(int l, int branch) {
    if (!isLinkage(l) || !of(branch, 2)) {
      return (int) no(1, NONE);
    }
    if (desk.tracers.isEmpty() || desk.points.isEmpty() || lawfulAngles(l).isEmpty()) {
      return (int) no(5, NONE);
    }
    trouble = 0;
    int best = -1;
    long fewest = Long.MAX_VALUE;
    for (int i = 0; i < desk.tracers.size(); i++) {
      ModelCurve at = curve(l, i, branch);
      long all = desk.points.stream().mapToLong(at::leastMiss).sum();
      if (all < fewest) {
        best = i;
        fewest = all;
      }
    }
    return best;
  }

  // ---- pairs

  int pair(int i, int what) {
    return isPair(i) && of(what, 4) ? (int) yes(desk.pairs.get(i)[what]) : (int) no(1, NOTHING);
  }

  private Frac closingOf(int[] v, int[] pair) {
    int[] one = {pair[0], pair[1]};
    int[] two = {pair[2], pair[3]};
    Frac both = cosine(one).times(cosine(two)).plus(sine(one).times(sine(two)));
    return Frac.of(v[0] * v[0] + v[1] * v[1] + v[3] * v[3] - v[2] * v[2])
        .minus(cosine(one).times(2L * v[0] * v[1]))
        .plus(cosine(two).times(2L * v[0] * v[3]))
        .minus(both.times(2L * v[1] * v[3]));
  }

  long closing(int l, int i, boolean lower) {
    return isLinkage(l) && isPair(i) ? yes(closingOf(desk.bars.get(l), desk.pairs.get(i)).told(lower))
        : no(1, LOW);
  }

  int fit(int what) {
    if (desk == null || !of(what, 3)) {
      return (int) no(1, NONE);
    }
    return desk.pairs.isEmpty() ? (int) no(5, NONE) : (int) yes(fitted()[what + 1]);
  }

  long fitMiss(boolean lower) {
    if (desk == null) {
      return no(1, -1);
    }
    return desk.pairs.isEmpty() ? no(5, -1) : yes(worst(fitted()).told(lower));
  }

  private Frac worst(int[] v) {
    Frac worst = Frac.ZERO;
    for (int[] pair : desk.pairs) {
      Frac size = closingOf(v, pair).abs();
      worst = size.compareTo(worst) > 0 ? size : worst;
    }
    return worst;
  }

  private ModelText fittedDesk = null;
  private int[] fitted = null;

  private int[] fitted() {
    if (fittedDesk == desk && fitted[0] == desk.bars.get(0)[0]) {
      return fitted;
    }
    fittedDesk = desk;
    Frac least = null;
    int[] v = {desk.bars.get(0)[0], 0, 0, 0};
    for (v[1] = 1; v[1] <= 18; v[1]++) {
      for (v[2] = 1; v[2] <= 18; v[2]++) {
        for (v[3] = 1; v[3] <= 18; v[3]++) {
          Frac size = worst(v);
          if (least == null || size.compareTo(least) < 0) {
            least = size;
            fitted = v.clone();
          }
        }
      }
    }
    return fitted;
  }

  long three(int what, boolean lower) {
    if (desk == null || !of(what, 3)) {
      return no(1, LOW);
    }
    if (desk.pairs.size() < 3) {
      return no(5, LOW);
    }
    Frac[][] rows = new Frac[3][];
    for (int i = 0; i < 3; i++) {
      int[] pair = desk.pairs.get(i);
      int[] one = {pair[0], pair[1]};
      int[] two = {pair[2], pair[3]};
      Frac both = cosine(one).times(cosine(two)).plus(sine(one).times(sine(two)));
      rows[i] = new Frac[] {cosine(two), cosine(one).negated(), Frac.ONE, both};
    }
    Frac[] solved = solve(rows);
    return solved == null ? no(5, LOW) : yes(solved[what].told(lower));
  }

  /** Gauss's way; null if there is not just one answer. */
  private static Frac[] solve(Frac[][] rows) {
    for (int c = 0; c < 3; c++) {
      int pivot = c;
      while (pivot < 3 && rows[pivot][c].signum() == 0) {
        pivot++;
      }
      if (pivot == 3) {
        return null;
      }
      Frac[] row = rows[pivot];
      rows[pivot] = rows[c];
      rows[c] = row;
      for (int r = 0; r < 3; r++) {
        if (r != c) {
          Frac times = rows[r][c].by(row[c]);
          for (int i = 0; i < 4; i++) {
            rows[r][i] = rows[r][i].minus(row[i].times(times));
          }
        }
      }
    }
    return new Frac[] {rows[0][3].by(rows[0][0]), rows[1][3].by(rows[1][1]), rows[2][3].by(rows[2][2])};
  }

  // ---- the walk

  boolean begin(int l, int k, int branch) {
    if (!isPosition(l, k, branch)) {
      return no(1, 0) != 0;
    }
    if (new ModelSpot(this, l, k).state == 0) {
      return no(5, 0) != 0;
    }
    walk = new int[] {l, k, branch, 0};
    return yes(1) != 0;
  }

  int walk(int what) {
    if (!of(what, 4)) {
      return (int) no(1, NONE);
    }
    return walk == null ? (int) no(5, NONE) : (int) yes(walk[what]);
  }

  int steps(int n) {
    if (walk == null) {
      return (int) no(5, NONE);
    }
    if (n < -100 || n > 100) {
      return (int) no(2, NONE);
    }
    trouble = 0;
    int done = 0;
    while (done < Math.abs(n)) {
      int to = Math.floorMod(walk[1] + (n < 0 ? -1 : 1), 40);
      if (new ModelSpot(this, walk[0], to).state == 0) {
        break;
      }
      walk[1] = to;
      walk[3]++;
      done++;
    }
    return done;
  }

  int flip() {
    if (walk == null || new ModelSpot(this, walk[0], walk[1]).state != 2) {
      return (int) no(5, NONE);
    }
    walk[2] ^= 1;
    walk[3]++;
    return (int) yes(walk[2]);
  }

  int away(int k, int branch) {
    if (walk == null) {
      return (int) no(5, NONE);
    }
    if (!isAngle(k) || !of(branch, 2)) {
      return (int) no(1, NONE);
    }
    int[][] far = new int[40][2];
    int[] state = new int[40];
    for (int i = 0; i < 40; i++) {
      Arrays.fill(far[i], 1000);
      state[i] = new ModelSpot(this, walk[0], i).state;
    }
    far[walk[1]][walk[2]] = 0;
    boolean better = true;
    while (better) {
      better = false;
      for (int i = 0; i < 80; i++) {
        int at = i / 2;
        int on = i % 2;
        int least = Math.min(far[(at + 1) % 40][on], far[(at + 39) % 40][on]);
        least = state[at] == 2 ? Math.min(least, far[at][1 - on]) : least;
        if (state[at] != 0 && least + 1 < far[at][on]) {
          far[at][on] = least + 1;
          better = true;
        }
      }
    }
    return (int) yes(far[k][branch] >= 1000 ? -2 : far[k][branch]);
  }

  // ---- acts

  int reshape(int l, int i, int length) {
    if (!isLinkage(l) || !of(i, 4)) {
      return (int) no(1, NONE);
    }
    if (length < 1 || length > 18) {
      return (int) no(2, NONE);
    }
    int old = desk.bars.get(l)[i];
    desk.bars.get(l)[i] = length;
    acts.add(new int[] {l, i, old});
    while (acts.size() > 10) {
      acts.remove(0);
    }
    walk = null;
    return (int) yes(old);
  }

  boolean undo() {
    if (acts.isEmpty()) {
      return no(1, 0) != 0;
    }
    int[] act = acts.remove(acts.size() - 1);
    desk.bars.get(act[0])[act[1]] = act[2];
    walk = null;
    return yes(1) != 0;
  }

  // ---- what is told

  int unbuilt(int i) {
    List<Integer> found = new ArrayList<>();
    for (int l = 0; desk != null && l < desk.bars.size(); l++) {
      if (!isBuilt(l)) {
        found.add(l);
      }
    }
    if (!of(i, found.size())) {
      throw new NoSuchElementException();
    }
    return found.get(i);
  }

  int size(int what) {
    switch (what) {
      case 0: return desk == null ? 0 : desk.bars.size();
      case 1: return desk == null ? 0 : desk.tracers.size();
      case 2: return desk == null ? 0 : desk.points.size();
      case 3: return desk == null ? 0 : desk.pairs.size();
      case 4: return acts.size();
      case 5: return tape.length();
      default: return NONE;
    }
  }

  int trouble() {
    return trouble;
  }

  // ---- helpers

  private long yes(long answer) {
    trouble = 0;
    return answer;
  }

  private long no(int number, long answer) {
    trouble = number;
    return answer;
  }

  private static boolean of(int i, int count) {
    return i >= 0 && i < count;
  }

  private boolean isLinkage(int l) {
    return desk != null && of(l, desk.bars.size());
  }

  private boolean isTracer(int i) {
    return desk != null && of(i, desk.tracers.size());
  }

  private boolean isPoint(int i) {
    return desk != null && of(i, desk.points.size());
  }

  private boolean isPair(int i) {
    return desk != null && of(i, desk.pairs.size());
  }

  private boolean isAngle(int k) {
    return of(k, turn.size());
  }

  private boolean isPosition(int l, int k, int branch) {
    return isLinkage(l) && isAngle(k) && of(branch, 2);
  }

  private int[] sorted(int l) {
    int[] s = desk.bars.get(l).clone();
    Arrays.sort(s);
    return s;
  }

  private boolean isBuilt(int l) {
    int[] s = sorted(l);
    return s[3] <= s[0] + s[1] + s[2];
  }

  int[] bars(int l) {
    return desk.bars.get(l);
  }

  int[] turn(int k) {
    return turn.get(k);
  }

  List<Integer> lawfulAngles(int l) {
    List<Integer> found = new ArrayList<>();
    for (int k = 0; k < turn.size(); k++) {
      if (new ModelSpot(this, l, k).state != 0) {
        found.add(k);
      }
    }
    return found;
  }
}
