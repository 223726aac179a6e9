import java.math.BigInteger;

/** An exact fraction. */
final class Q implements Comparable<Q> {
  static final Q HALF = of(1, 2);
  final BigInteger above;
  final BigInteger below;

  private Q(BigInteger above, BigInteger below) {
    BigInteger g = above.gcd(below);
    if (below.signum() < 0) g = g.negate();
    this.above = g.signum() == 0 ? above : above.divide(g);
    this.below = g.signum() == 0 ? below : below.divide(g);
  }

  static Q of(long above, long below) {
    return new Q(BigInteger.valueOf(above), BigInteger.valueOf(below));
  }

  static Q of(long whole) {
    return of(whole, 1);
  }

  Q plus(Q o) {
    return new Q(above.multiply(o.below).add(o.above.multiply(below)), below.multiply(o.below));
  }

  Q minus(Q o) {
    return new Q(above.multiply(o.below).subtract(o.above.multiply(below)), below.multiply(o.below));
  }

  Q times(Q o) {
    return new Q(above.multiply(o.above), below.multiply(o.below));
  }

  Q over(Q o) {
    return new Q(above.multiply(o.below), below.multiply(o.above));
  }

  int sign() {
    return above.signum();
  }

  long floor() {
    BigInteger[] parts = above.divideAndRemainder(below);
    return parts[0].longValue() - (parts[1].signum() < 0 ? 1 : 0);
  }

  @Override
  public int compareTo(Q o) {
    return above.multiply(o.below).compareTo(o.above.multiply(below));
  }

  @Override
  public boolean equals(Object o) {
    return o instanceof Q q && compareTo(q) == 0;
  }

  @Override
  public int hashCode() {
    return above.hashCode() * 31 + below.hashCode();
  }
}
