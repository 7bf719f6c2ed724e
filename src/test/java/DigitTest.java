/** Promise 3: digits that come one by one, and zeros that are kept in mind. */
public final class DigitTest {
    public static void main(String[] args) {
        digitsComeBehind();
        zerosWait();
        zerosMoveThePointOfZero();
        digitsComeBehindADouble();
        refusesWhatIsNoDigit();
        refusesMoreThan800();
        countsZerosInMind();
        theLastOf800MayBeAZeroInMind();
        refusesZerosBelowTheLowestPlace();
        manyZerosComeTillTheLowestPlace();
        othersComeBelowTheLowestPlace();
        Due.end();
    }

    private static void digitsComeBehind() {
        Due.says("A digit comes: how many DIGITS there are.");
        Run x = new Run();
        for (int d = 1; d <= 9; d++) {
            Due.same("digit(" + d + ")", x.digit(d), d);
        }
        Due.kept("nine digits", x, "+0.123456789e0");
    }

    private static void zerosWait() {
        Run x = Due.typed(true, 4, "5");
        Due.same("digit(0)", x.digit(0), 1);
        Due.same("digit(0)", x.digit(0), 1);
        Due.kept("5, two zeros", x, "-0.5e4");
        Due.throwing("look(1) at a zero in mind", Due.INDEX, () -> x.look(1));
        Due.same("nearest() with zeros in mind", x.nearest(), Double.doubleToRawLongBits(-5000.0));
        Due.same("digit(7) behind two zeros", x.digit(7), 4);
        Due.kept("5, two zeros, 7", x, "-0.5007e4");
        Due.same("digit(8)", x.digit(8), 5);
        Due.kept("5, two zeros, 7, 8", x, "-0.50078e4");
    }

    private static void zerosMoveThePointOfZero() {
        Run x = Due.typed(true, 2, "000");
        Due.kept("zeros to 0", x, "-0.e0");
        Due.same("digit(4)", x.digit(4), 1);
        Due.kept("zeros to 0, 4", x, "-0.4e-1");
        Run fresh = new Run();
        Due.same("digit(0) when new", fresh.digit(0), 0);
        fresh.digit(9);
        Due.kept("new, 0, 9", fresh, "+0.9e-1");
    }

    private static void digitsComeBehindADouble() {
        Run x = Due.set(-0.25);
        Due.same("digit(0) behind -0.25", x.digit(0), 2);
        Due.same("digit(1) behind -0.250", x.digit(1), 4);
        Due.kept("-0.25, 0, 1", x, "-0.2501e0");
        Run thousand = Due.set(1000.0);
        thousand.digit(5);
        Due.kept("1000, 5", thousand, "+0.15e4");
    }

    private static void refusesWhatIsNoDigit() {
        Due.says("IllegalArgumentException: it is not 0..9.");
        Run x = Due.typed(false, 0, "12");
        for (int d : new int[] {-1, 10, 11, '0', '9', Integer.MIN_VALUE, Integer.MAX_VALUE}) {
            Due.refused(x, "digit(" + d + ")", Due.ILLEGAL, () -> x.digit(d));
        }
        for (int d = 0; d <= 9; d++) {
            Run taken = Due.typed(false, 0, "12");
            Due.same("12, digit(" + d + ")", taken.digit(d), d == 0 ? 2 : 3);
            Run first = new Run();
            Due.same("new, digit(" + d + ")", first.digit(d), d == 0 ? 0 : 1);
        }
    }

    private static void refusesMoreThan800() {
        Due.says("IndexOutOfBoundsException: there would be more than 800");
        Run x = Due.set(Double.MIN_VALUE);
        int length = x.count(0);
        for (int n = length + 1; n <= 800; n++) {
            Due.same("digit(9) as number " + n, x.digit(9), n);
        }
        Due.refused(x, "digit(9) as number 801", Due.INDEX, () -> x.digit(9));
        Due.refused(x, "digit(0) as number 801", Due.INDEX, () -> x.digit(0));
        Due.same("look(799)", x.look(799), 9);
        Due.same("round(799), which makes the nines go up", x.round(799), length);
    }

    private static void countsZerosInMind() {
        Due.says("there would be more than 800 (those kept in mind counted)");
        Run x = Due.set(Double.MIN_VALUE);
        int length = x.count(0);
        Due.type(x, Due.repeat('0', 799 - length));
        Due.same("count(0) with zeros in mind", x.count(0), length);
        Due.same("digit(6) as number 800", x.digit(6), 800);
        Run y = Due.set(Double.MIN_VALUE);
        Due.type(y, Due.repeat('0', 800 - length));
        Due.refused(y, "digit(0) behind 800 with zeros in mind", Due.INDEX, () -> y.digit(0));
        Due.refused(y, "digit(1) behind 800 with zeros in mind", Due.INDEX, () -> y.digit(1));
        y.round(800);
        Due.same("digit(1) when the zeros are gone", y.digit(1), length + 1);
    }

    private static void theLastOf800MayBeAZeroInMind() {
        Due.says("there would be more than 800 (those kept in mind counted)");
        Run x = Due.longest();
        Due.type(x, Due.repeat('2', 32));
        Due.same("799 digits, digit(0)", x.digit(0), 799);
        Due.refused(x, "799 digits and a zero, digit(0)", Due.INDEX, () -> x.digit(0));
        Due.refused(x, "799 digits and a zero, digit(1)", Due.INDEX, () -> x.digit(1));
        Due.same("799 digits and a zero, round(799)", x.round(799), 799);
        Due.same("799 digits, digit(1)", x.digit(1), 800);
        Due.refused(x, "800 digits, digit(1)", Due.INDEX, () -> x.digit(1));
        Due.same("800 digits, round(1)", x.round(1), 1);
        Due.same("1 digit, digit(1)", x.digit(1), 2);
    }

    private static void manyZerosComeTillTheLowestPlace() {
        Due.says("or it is a zero for 0 whose PLACE is below -1000");
        Run x = Due.typed(false, -600, Due.repeat('0', 400));
        Due.same("digit(0) at -1000", x.digit(0), 0);
        Due.refused(x, "digit(0) at -1001", Due.INDEX, () -> x.digit(0));
        x.digit(1);
        Due.kept("digit(1) at -1001", x, "+0.1e-1001");
        Run gone = Due.typed(true, -1000, "0");
        gone.round(7);
        Due.same("0 at -1001, round(7), digit(0)", gone.digit(0), 0);
        gone.clear(true, -1000);
        Due.same("0 at -1000, digit(0)", gone.digit(0), 0);
        Due.refused(gone, "0 at -1001, digit(0)", Due.INDEX, () -> gone.digit(0));
        gone.set(0L);
        Due.same("0 at -1001, set(0), digit(0)", gone.digit(0), 0);
    }

    /** Only a zero for 0 is refused there. */
    private static void othersComeBelowTheLowestPlace() {
        Due.says("or it is a zero for 0 whose PLACE is below -1000");
        for (int d = 1; d <= 9; d++) {
            Run x = Due.typed(true, -1000, "0");
            Due.same("0 at -1001, digit(" + d + ")", x.digit(d), 1);
            Due.same("digit(0) behind it", x.digit(0), 1);
            Due.same("digit(0) behind it", x.digit(0), 1);
            Due.same("digit(" + d + ") behind it", x.digit(d), 4);
            Due.kept("0 at -1001 and digits", x, "-0." + d + "00" + d + "e-1001");
        }
    }

    private static void refusesZerosBelowTheLowestPlace() {
        Due.says("or it is a zero for 0 whose PLACE is below -1000");
        Run x = new Run();
        x.clear(true, -999);
        Due.same("digit(0) at -999", x.digit(0), 0);
        Due.same("digit(0) at -1000", x.digit(0), 0);
        Due.refused(x, "digit(0) at -1001", Due.INDEX, () -> x.digit(0));
        Due.refused(x, "digit(0) at -1001", Due.INDEX, () -> x.digit(0));
        Due.same("digit(8) at -1001", x.digit(8), 1);
        Due.kept("digit(8) at -1001", x, "-0.8e-1001");
        Due.same("digit(0) behind it", x.digit(0), 1);
        Due.same("digit(2) behind it", x.digit(2), 3);
        Due.kept("digits behind it", x, "-0.802e-1001");
    }
}
