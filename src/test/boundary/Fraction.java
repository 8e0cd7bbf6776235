import java.math.BigInteger;

/** Exact fractions, so that a test can ask the document's own equations of what is told. */
record Fraction(BigInteger upper, BigInteger lower) {
    static final Fraction NOUGHT = of(0, 1);
    static final Fraction ONE = of(1, 1);

    static Fraction of(BigInteger upper, BigInteger lower) {
        BigInteger common = upper.gcd(lower);
        BigInteger way = common.multiply(BigInteger.valueOf(lower.signum()));
        return new Fraction(upper.divide(way), lower.divide(way));
    }

    static Fraction of(long upper, long lower) {
        return of(BigInteger.valueOf(upper), BigInteger.valueOf(lower));
    }

    /** From a text as Calls tells it. */
    static Fraction of(String told) {
        int line = told.indexOf('/');
        if (line < 0) {
            throw new IllegalArgumentException("no fraction: " + told);
        }
        return of(new BigInteger(told.substring(0, line)), new BigInteger(told.substring(line + 1)));
    }

    Fraction plus(Fraction other) {
        return of(upper.multiply(other.lower).add(other.upper.multiply(lower)), lower.multiply(other.lower));
    }

    Fraction times(Fraction other) {
        return of(upper.multiply(other.upper), lower.multiply(other.lower));
    }

    Fraction times(long factor) {
        return times(of(factor, 1));
    }

    Fraction over(Fraction other) {
        return of(upper.multiply(other.lower), lower.multiply(other.upper));
    }

    Fraction minus(Fraction other) {
        return plus(other.times(-1));
    }

    int sign() {
        return upper.signum();
    }

    @Override
    public String toString() {
        return upper + "/" + lower;
    }
}
