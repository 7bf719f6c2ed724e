import java.math.BigDecimal;
import java.math.MathContext;
import java.math.RoundingMode;

/** The document's words over the library's decimals: slow, and made of other parts than the program. */
final class Model {
    private boolean minus;
    private BigDecimal size = BigDecimal.ZERO;
    private int zeros;
    private int point;

    static BigDecimal rounded(BigDecimal size, int n) {
        return n == 0 ? BigDecimal.ZERO : size.round(new MathContext(n, RoundingMode.HALF_EVEN));
    }

    int digits() {
        return size.signum() == 0 ? 0 : size.stripTrailingZeros().precision();
    }

    int place() {
        return size.signum() == 0 ? 0 : size.precision() - size.scale();
    }

    String text() {
        return Due.text(minus, size);
    }

    int set(long bits) {
        double d = Double.longBitsToDouble(bits);
        if (Double.isNaN(d) || Double.isInfinite(d)) {
            throw new IllegalArgumentException();
        }
        minus = bits < 0;
        return become(new BigDecimal(d).abs());
    }

    int digit(int d) {
        if (d < 0 || d > 9) {
            throw new IllegalArgumentException();
        }
        boolean isZero = size.signum() == 0;
        if (isZero ? d == 0 && point < -1000 : digits() + zeros + 1 > 800) {
            throw new IndexOutOfBoundsException();
        }
        if (d == 0 && isZero) {
            point--;
        } else if (d == 0) {
            zeros++;
        } else {
            int at = isZero ? point - 1 : place() - digits() - zeros - 1;
            size = size.add(Due.power(at).multiply(BigDecimal.valueOf(d)));
            zeros = 0;
        }
        return digits();
    }

    void clear(boolean minus, int place) {
        if (place < -1000 || place > 1000) {
            throw new IllegalArgumentException();
        }
        this.minus = minus;
        become(BigDecimal.ZERO);
        point = place;
    }

    int round(int n) {
        if (n < 0 || n > 800) {
            throw new IllegalArgumentException();
        }
        return become(rounded(size, n));
    }

    int places(int n) {
        if (n < -1000 || n > 2000) {
            throw new IllegalArgumentException();
        }
        return become(size.setScale(n, RoundingMode.HALF_EVEN));
    }

    long nearest() {
        double d = Double.parseDouble(size.toString());
        if (Double.isInfinite(d)) {
            throw new ArithmeticException();
        }
        return Double.doubleToRawLongBits(minus ? -d : d);
    }

    int enough() {
        long own = nearest();
        int n = 0;
        while (!hasNearest(rounded(size, n), own)) {
            n++;
        }
        become(rounded(size, n));
        return n;
    }

    int look(int k) {
        if (k < 0 || k >= digits()) {
            throw new IndexOutOfBoundsException();
        }
        return size.unscaledValue().toString().charAt(k) - '0';
    }

    int count(int what) {
        switch (what) {
            case 0:
                return digits();
            case 1:
                return place();
            case 2:
                return minus ? 1 : 0;
            default:
                throw new IllegalArgumentException();
        }
    }

    private boolean hasNearest(BigDecimal other, long bits) {
        double d = Double.parseDouble(other.toString());
        return Double.doubleToRawLongBits(minus ? -d : d) == bits;
    }

    private int become(BigDecimal other) {
        size = other.signum() == 0 ? BigDecimal.ZERO : other.stripTrailingZeros();
        zeros = 0;
        point = 0;
        return digits();
    }
}
