import java.math.BigInteger;

/** A fraction without bounds, for the model. */
final class Frac implements Comparable<Frac> {
  static final Frac ZERO = of(0);
  static final Frac ONE = of(1);
  final BigInteger up;
  final BigInteger down;

  Frac(BigInteger up, BigInteger down) {
    BigInteger g = up.gcd(down);
    if (down.signum() < 0) {
      g = g.negate();
    }
    this.up = up.divide(g);
    this.down = down.divide(g);
  }

  static Frac of(long up) {
    return of(up, 1);
  }

  static Frac of(long up, long down) {
    return new Frac(BigInteger.valueOf(up), BigInteger.valueOf(down));
  }

  Frac plus(Frac o) {
    return new Frac(up.multiply(o.down).add(o.up.multiply(down)), down.multiply(o.down));
  }

  Frac minus(Frac o) {
    return plus(o.negated());
  }

  Frac times(Frac o) {
    return new Frac(up.multiply(o.up), down.multiply(o.down));
  }

  Frac times(long o) {
    return times(of(o));
  }

  Frac by(Frac o) {
    return new Frac(up.multiply(o.down), down.multiply(o.up));
  }

  Frac negated() {
    return new Frac(up.negate(), down);
  }

  Frac abs() {
    return signum() < 0 ? negated() : this;
  }

  int signum() {
    return up.signum();
  }

  @Override
  public int compareTo(Frac o) {
    return minus(o).signum();
  }

  long told(boolean lower) {
    return (lower ? down : up).longValueExact();
  }

  @Override
  public String toString() {
    return up + "/" + down;
  }
}
