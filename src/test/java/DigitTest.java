/** Promise 3: digits that come one by one, and zeros that are kept in mind. */
public final class DigitTest {
    public static void main(String[] args) {
        digitsComeBehind();
        zerosWait();
        zerosMoveThePointOfZero();
        digitsComeBehindADouble();
        refusesWhatIsNoDigit();
        refusesMoreThan800();
        countsZerosInMind();
        refusesZerosBelowTheLowestPlace();
        Due.end();
    }

    private static void digitsComeBehind() {
        DecimalTruth x = new DecimalTruth();
        for (int d = 1; d <= 9; d++) {
            Due.same("digit(" + d + ")", x.digit(d), d);
        }
        Due.kept("nine digits", x, "+0.123456789e0");
    }

    private static void zerosWait() {
        DecimalTruth x = Due.typed(true, 4, "5");
        Due.same("digit(0)", x.digit(0), 1);
        Due.same("digit(0)", x.digit(0), 1);
        Due.kept("5, two zeros", x, "-0.5e4");
        Due.throwing("look(1) at a zero in mind", Due.INDEX, () -> x.look(1));
        Due.same("nearest() with zeros in mind", x.nearest(), Double.doubleToRawLongBits(-5000.0));
        Due.same("digit(7) behind two zeros", x.digit(7), 4);
        Due.kept("5, two zeros, 7", x, "-0.5007e4");
        Due.same("digit(8)", x.digit(8), 5);
        Due.kept("5, two zeros, 7, 8", x, "-0.50078e4");
    }

    private static void zerosMoveThePointOfZero() {
        DecimalTruth x = Due.typed(true, 2, "000");
        Due.kept("zeros to 0", x, "-0.e0");
        Due.same("digit(4)", x.digit(4), 1);
        Due.kept("zeros to 0, 4", x, "-0.4e-1");
        DecimalTruth fresh = new DecimalTruth();
        Due.same("digit(0) when new", fresh.digit(0), 0);
        fresh.digit(9);
        Due.kept("new, 0, 9", fresh, "+0.9e-1");
    }

    private static void digitsComeBehindADouble() {
        DecimalTruth x = Due.set(-0.25);
        Due.same("digit(0) behind -0.25", x.digit(0), 2);
        Due.same("digit(1) behind -0.250", x.digit(1), 4);
        Due.kept("-0.25, 0, 1", x, "-0.2501e0");
        DecimalTruth thousand = Due.set(1000.0);
        thousand.digit(5);
        Due.kept("1000, 5", thousand, "+0.15e4");
    }

    private static void refusesWhatIsNoDigit() {
        DecimalTruth x = Due.typed(false, 0, "12");
        for (int d : new int[] {-1, 10, 11, '0', '9', Integer.MIN_VALUE, Integer.MAX_VALUE}) {
            Due.refused(x, "digit(" + d + ")", Due.ILLEGAL, () -> x.digit(d));
        }
    }

    private static void refusesMoreThan800() {
        DecimalTruth x = Due.set(Double.MIN_VALUE);
        int length = x.count(0);
        for (int n = length + 1; n <= 800; n++) {
            Due.same("digit(9) as number " + n, x.digit(9), n);
        }
        Due.refused(x, "digit(9) as number 801", Due.INDEX, () -> x.digit(9));
        Due.refused(x, "digit(0) as number 801", Due.INDEX, () -> x.digit(0));
        Due.same("look(799)", x.look(799), 9);
        Due.same("round(799), which makes the nines go up", x.round(799), length);
    }

    private static void countsZerosInMind() {
        DecimalTruth x = Due.set(Double.MIN_VALUE);
        int length = x.count(0);
        Due.type(x, Due.repeat('0', 799 - length));
        Due.same("count(0) with zeros in mind", x.count(0), length);
        Due.same("digit(6) as number 800", x.digit(6), 800);
        DecimalTruth y = Due.set(Double.MIN_VALUE);
        Due.type(y, Due.repeat('0', 800 - length));
        Due.refused(y, "digit(0) behind 800 with zeros in mind", Due.INDEX, () -> y.digit(0));
        Due.refused(y, "digit(1) behind 800 with zeros in mind", Due.INDEX, () -> y.digit(1));
        y.round(800);
        Due.same("digit(1) when the zeros are gone", y.digit(1), length + 1);
    }

    private static void refusesZerosBelowTheLowestPlace() {
        DecimalTruth x = new DecimalTruth();
        x.clear(true, -999);
        Due.same("digit(0) at -999", x.digit(0), 0);
        Due.same("digit(0) at -1000", x.digit(0), 0);
        Due.refused(x, "digit(0) at -1001", Due.INDEX, () -> x.digit(0));
        Due.refused(x, "digit(0) at -1001", Due.INDEX, () -> x.digit(0));
        Due.same("digit(8) at -1001", x.digit(8), 1);
        Due.kept("digit(8) at -1001", x, "-0.8e-1001");
        Due.same("digit(0) behind it", x.digit(0), 1);
        Due.same("digit(2) behind it", x.digit(2), 3);
        Due.kept("digits behind it", x, "-0.802e-1001");
    }
}
