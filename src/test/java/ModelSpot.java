/** A linkage at an angle, by the document's letters, for the model. */
final class ModelSpot {
  final int state;
  final long k;
  private final int[] bars;
  private final Frac pinX;
  private final Frac pinY;
  private final long n;
  private final long cos;
  private final long sin;
  private final long s;
  private final long e;

  ModelSpot(Model model, int l, int angle) {
    bars = model.bars(l);
    int p = model.turn(angle)[0];
    int q = model.turn(angle)[1];
    n = p * p + q * q;
    cos = q * q - p * p;
    sin = 2L * p * q;
    long g = bars[0];
    long a = bars[1];
    long b = bars[2];
    long c = bars[3];
    pinX = Frac.of(a * cos, n);
    pinY = Frac.of(a * sin, n);
    s = (g * g + a * a) * n - 2 * g * a * cos;
    e = s + (b * b - c * c) * n;
    k = 4 * b * b * s * n - e * e;
    state = s <= 0 || k < 0 ? 0 : k == 0 ? 2 : 1;
  }

  /** x and y of JOINT; that it is b from PIN and c from (g, 0) is looked at, too. */
  Surd[] joint(int branch) {
    long x = bars[0] * n - bars[1] * cos;
    long y = -bars[1] * sin;
    long sign = branch == 0 ? 1 : -1;
    Frac w = Frac.of(2 * s * n);
    Surd jx = new Surd(Frac.of(2 * bars[1] * cos * s + e * x).by(w), Frac.of(-y * sign).by(w), k);
    Surd jy = new Surd(Frac.of(2 * bars[1] * sin * s + e * y).by(w), Frac.of(x * sign).by(w), k);
    same(square(jx.minus(pin()[0]), jy.minus(pin()[1])), bars[2]);
    same(square(jx.minus(Surd.of(Frac.of(bars[0]), k)), jy), bars[3]);
    return new Surd[] {jx, jy};
  }

  private static Surd square(Surd x, Surd y) {
    return x.times(x).plus(y.times(y));
  }

  private static void same(Surd square, int length) {
    if (square.v.signum() != 0 || square.u.compareTo(Frac.of(length * length)) != 0) {
      throw new IllegalStateException("a bar is not as long as it should be");
    }
  }

  private Surd[] pin() {
    return new Surd[] {Surd.of(pinX, k), Surd.of(pinY, k)};
  }

  /** Ten times x and y of what is traced. */
  Surd[] traced(int[] tracer, int branch) {
    Surd[] joint = joint(branch);
    Surd[] pin = pin();
    Surd dx = joint[0].minus(pin[0]);
    Surd dy = joint[1].minus(pin[1]);
    return new Surd[] {
        pin[0].times(10).plus(dx.times(tracer[0])).minus(dy.times(tracer[1])),
        pin[1].times(10).plus(dy.times(tracer[0])).plus(dx.times(tracer[1]))};
  }

  Frac force() {
    long b = bars[2];
    long c = bars[3];
    return Frac.of((b * b + c * c) * n - s, 2 * b * c * n);
  }

  Surd rate(int branch) {
    Surd[] joint = joint(branch);
    Surd[] pin = pin();
    Surd upper = pin[0].times(joint[1]).minus(pin[1].times(joint[0]));
    Surd lower = joint[0].minus(Surd.of(Frac.of(bars[0]), k)).times(joint[1].minus(pin[1]))
        .minus(joint[1].times(joint[0].minus(pin[0])));
    return upper.by(lower);
  }
}
