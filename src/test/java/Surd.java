import java.math.BigInteger;

/** u + v times the root of k, kept apart even where k is a square, for the model. */
final class Surd {
  final Frac u;
  final Frac v;
  final long k;

  Surd(Frac u, Frac v, long k) {
    this.u = u;
    this.v = v;
    this.k = k;
  }

  static Surd of(Frac u, long k) {
    return new Surd(u, Frac.ZERO, k);
  }

  Surd plus(Surd o) {
    return new Surd(u.plus(o.u), v.plus(o.v), k);
  }

  Surd minus(Surd o) {
    return new Surd(u.minus(o.u), v.minus(o.v), k);
  }

  Surd times(Surd o) {
    return new Surd(u.times(o.u).plus(v.times(o.v).times(k)), u.times(o.v).plus(v.times(o.u)), k);
  }

  Surd times(long o) {
    return new Surd(u.times(o), v.times(o), k);
  }

  Surd by(Surd o) {
    Surd mirror = new Surd(o.u, o.v.negated(), k);
    Frac norm = o.times(mirror).u;
    Surd upper = times(mirror);
    return new Surd(upper.u.by(norm), upper.v.by(norm), k);
  }

  /** -1, 0 or 1 by its value, found by squares. */
  int signum() {
    int one = u.signum();
    int other = k == 0 ? 0 : v.signum();
    if (one == 0 || other == 0 || one == other) {
      return one != 0 ? one : other;
    }
    return one * u.times(u).compareTo(v.times(v).times(k));
  }

  /** The greatest whole number that is no more, found by halving. */
  int floor() {
    int low = -1000000;
    int high = 1000000;
    while (high - low > 1) {
      int middle = Math.floorDiv(low + high, 2);
      if (minus(of(Frac.of(middle), k)).signum() >= 0) {
        low = middle;
      } else {
        high = middle;
      }
    }
    return low;
  }

  /** u (0), v (1), w (2) of (u + v root) by w, without a common divisor. */
  long told(int what) {
    BigInteger w = u.down.multiply(v.down).divide(u.down.gcd(v.down));
    if (what == 2) {
      return w.longValueExact();
    }
    Frac part = what == 0 ? u : v;
    return part.up.multiply(w.divide(part.down)).longValueExact();
  }
}
