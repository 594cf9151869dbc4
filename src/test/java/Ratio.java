import java.math.BigInteger;

/** A fraction without a bound, for the model. */
final class Ratio implements Comparable<Ratio> {
    static final Ratio ZERO = of(0);
    final BigInteger above;
    final BigInteger below;

    private Ratio(BigInteger above, BigInteger below) {
        BigInteger divisor = above.gcd(below);
        if (below.signum() < 0) {
            divisor = divisor.negate();
        }
        this.above = above.divide(divisor);
        this.below = below.divide(divisor);
    }

    static Ratio of(long v) {
        return new Ratio(BigInteger.valueOf(v), BigInteger.ONE);
    }

    Ratio plus(Ratio o) {
        return new Ratio(above.multiply(o.below).add(o.above.multiply(below)), below.multiply(o.below));
    }

    Ratio minus(Ratio o) {
        return plus(o.times(-1));
    }

    Ratio times(Ratio o) {
        return new Ratio(above.multiply(o.above), below.multiply(o.below));
    }

    Ratio times(long v) {
        return times(of(v));
    }

    Ratio by(Ratio o) {
        return new Ratio(above.multiply(o.below), below.multiply(o.above));
    }

    Ratio by(long v) {
        return by(of(v));
    }

    int sign() {
        return above.signum();
    }

    /** Part 0 is above the line, part 1 below it. */
    long part(int part) {
        return (part == 0 ? above : below).longValueExact();
    }

    @Override
    public int compareTo(Ratio o) {
        return minus(o).sign();
    }
}
