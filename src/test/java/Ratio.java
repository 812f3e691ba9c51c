import java.math.BigInteger;

/** An exact fraction of any size; what is divided by 0 is 0. */
record Ratio(BigInteger top, BigInteger bottom) {
    static final Ratio ZERO = of(0, 1);

    static Ratio of(long top, long bottom) {
        return least(BigInteger.valueOf(top), BigInteger.valueOf(bottom));
    }

    private static Ratio least(BigInteger top, BigInteger bottom) {
        if (bottom.signum() == 0) {
            return ZERO;
        }
        BigInteger divisor = top.gcd(bottom).multiply(BigInteger.valueOf(bottom.signum()));
        return new Ratio(top.divide(divisor), bottom.divide(divisor));
    }

    Ratio plus(Ratio other) {
        return least(top.multiply(other.bottom).add(other.top.multiply(bottom)), bottom.multiply(other.bottom));
    }

    Ratio minus(Ratio other) {
        return plus(new Ratio(other.top.negate(), other.bottom));
    }

    Ratio by(Ratio other) {
        return least(top.multiply(other.bottom), bottom.multiply(other.top));
    }

    Ratio by(long other) {
        return by(of(other, 1));
    }

    int compareSize(Ratio other) {
        return top.abs().multiply(other.bottom).compareTo(other.top.abs().multiply(bottom));
    }

    int sign() {
        return top.signum();
    }
}
