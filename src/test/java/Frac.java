/** A fraction in lowest terms; throws rather than wrap around. */
final class Frac implements Comparable<Frac> {
  static final Frac ZERO = of(0);
  static final Frac ONE = of(1);
  final long top;
  final long bottom;

  private Frac(long top, long bottom) {
    this.top = top;
    this.bottom = bottom;
  }

  static Frac of(long whole) {
    return new Frac(whole, 1);
  }

  static Frac of(long top, long bottom) {
    long a = Math.abs(top);
    long b = Math.abs(bottom);
    while (b != 0) {
      long rest = a % b;
      a = b;
      b = rest;
    }
    long sign = bottom < 0 ? -1 : 1;
    return new Frac(sign * top / a, sign * bottom / a);
  }

  Frac plus(Frac o) {
    return of(Math.addExact(Math.multiplyExact(top, o.bottom), Math.multiplyExact(o.top, bottom)),
        Math.multiplyExact(bottom, o.bottom));
  }

  Frac minus(Frac o) {
    return plus(of(-o.top, o.bottom));
  }

  Frac times(Frac o) {
    return of(Math.multiplyExact(top, o.top), Math.multiplyExact(bottom, o.bottom));
  }

  Frac over(Frac o) {
    return of(Math.multiplyExact(top, o.bottom), Math.multiplyExact(bottom, o.top));
  }

  int sign() {
    return Long.signum(top);
  }

  boolean isWhole() {
    return bottom == 1;
  }

  @Override
  public int compareTo(Frac o) {
    return Long.compare(Math.multiplyExact(top, o.bottom), Math.multiplyExact(o.top, bottom));
  }

  @Override
  public boolean equals(Object o) {
    return o instanceof Frac f && f.top == top && f.bottom == bottom;
  }

  @Override
  public int hashCode() {
    return Long.hashCode(top * 31 + bottom);
  }

  @Override
  public String toString() {
    return bottom == 1 ? "" + top : top + "/" + bottom;
  }
}
