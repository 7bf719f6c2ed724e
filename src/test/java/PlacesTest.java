import java.math.BigDecimal;
import java.math.RoundingMode;

/** Promise 6: rounding to a number of digits behind the point. */
public final class PlacesTest {
    public static void main(String[] args) {
        roundsBehindThePoint();
        roundsBeforeThePoint();
        roundsAtTheFirstDigit();
        roundsBeforeTheFirstDigit();
        keepsWhatHasNoMore();
        roundsAtTheOuterPlaces();
        roundsTheFarthestDigits();
        roundsLongOnes();
        forgetsWhatCame();
        refusesOtherNumbers();
        Due.end();
    }

    private static void rounds(int place, String digits, int n, String want) {
        Run x = Due.typed(true, place, digits);
        Due.rounded(digits + "e" + place + ", places(" + n + ")", x, x.places(n), want);
    }

    private static void roundsBehindThePoint() {
        Due.says("It is ROUNDED to n digits behind the point: how many DIGITS.");
        rounds(2, "1234", 1, "-0.123e2");
        rounds(2, "1236", 1, "-0.124e2");
        rounds(2, "1225", 1, "-0.122e2");
        rounds(2, "1235", 1, "-0.124e2");
        rounds(2, "122501", 1, "-0.123e2");
        rounds(2, "9996", 1, "-0.1e3");
        rounds(2, "1204", 1, "-0.12e2");
        rounds(-3, "4567", 5, "-0.46e-3");
    }

    private static void roundsBeforeThePoint() {
        rounds(4, "123456", -2, "-0.12e4");
        rounds(4, "125", -2, "-0.12e4");
        rounds(4, "135", -2, "-0.14e4");
        rounds(4, "9951", -2, "-0.1e5");
        rounds(4, "123456", 0, "-0.1235e4");
    }

    private static void roundsAtTheFirstDigit() {
        rounds(0, "5", 0, "-0.e0");
        rounds(0, "51", 0, "-0.1e1");
        rounds(0, "50000000000000000001", 0, "-0.1e1");
        rounds(0, "4999", 0, "-0.e0");
        rounds(0, "6", 0, "-0.1e1");
        rounds(-4, "7", 4, "-0.1e-3");
        rounds(3, "7", -3, "-0.1e4");
        rounds(3, "5", -3, "-0.e0");
    }

    private static void roundsBeforeTheFirstDigit() {
        rounds(0, "99", -1, "-0.e0");
        rounds(-1, "99", 0, "-0.e0");
        rounds(-1000, "9", 0, "-0.e0");
        rounds(3, "99", -1000, "-0.e0");
    }

    private static void keepsWhatHasNoMore() {
        rounds(2, "1234", 2, "-0.1234e2");
        rounds(2, "1234", 2000, "-0.1234e2");
        rounds(9, "12", -7, "-0.12e9");
        rounds(9, "", 0, "-0.e0");
        rounds(9, "", -5, "-0.e0");
    }

    private static void roundsAtTheOuterPlaces() {
        rounds(1000, "6", -1000, "-0.1e1001");
        rounds(1000, "5", -1000, "-0.e0");
        rounds(1000, "96", -999, "-0.1e1001");
        rounds(-1000, "12", 1001, "-0.1e-1000");
        rounds(-1000, "012", 1002, "-0.1e-1001");
        rounds(-1000, "06", 1001, "-0.1e-1000");
    }

    private static void roundsTheFarthestDigits() {
        Due.says("It is ROUNDED to n digits behind the point: how many DIGITS.");
        String digits = Due.repeat('1', 499) + "8";
        rounds(-1000, "0" + digits, 2000, "-0." + digits + "e-1001");
        rounds(-1000, "0" + digits, 1501, "-0." + digits + "e-1001");
        rounds(-1000, "0" + digits, 1500, "-0." + Due.repeat('1', 498) + "2e-1001");
        rounds(1000, digits, -500, "-0." + digits + "e1000");
        rounds(1000, digits, -501, "-0." + Due.repeat('1', 498) + "2e1000");
        rounds(1000, digits, -999, "-0.1e1000");
        rounds(1000, digits, -1000, "-0.e0");
        Run full = Due.longest();
        Due.type(full, Due.repeat('1', 33));
        Due.same("800 digits, places(1107)", full.places(1107), 800);
        Due.same("800 digits, places(1106)", full.places(1106), 799);
        Due.same("799 digits, places(308)", full.places(308), 1);
        Due.same("1 digit, places(307)", full.places(307), 0);
    }

    private static void roundsLongOnes() {
        for (double d : new double[] {Double.MIN_VALUE, 1e-300, Math.PI, Math.E * 1e10, Double.MAX_VALUE}) {
            for (int n = 1100; n >= -320; n -= 13) {
                Run x = Due.set(d);
                x.places(n);
                BigDecimal size = new BigDecimal(d).setScale(n, RoundingMode.HALF_EVEN);
                Due.kept(d + " places(" + n + ")", x, Due.text(false, size));
            }
        }
    }

    private static void forgetsWhatCame() {
        Due.says("or it is set, ROUNDED, cleared: then they are gone");
        Run x = Due.typed(false, 3, "4200");
        Due.same("places(2000) with zeros in mind", x.places(2000), 2);
        x.digit(1);
        Due.kept("zeros in mind, places(2000), digit(1)", x, "+0.421e3");
        Run zero = Due.typed(true, 9, "");
        Due.same("places(4) of 0", zero.places(4), 0);
        zero.digit(1);
        Due.kept("clear(true, 9), places(4), digit(1)", zero, "-0.1e0");
        Run gone = Due.typed(true, 9, "1");
        gone.places(-20);
        gone.digit(1);
        Due.kept("1e8, places(-20), digit(1)", gone, "-0.1e0");
    }

    private static void refusesOtherNumbers() {
        Due.says("IllegalArgumentException: n is not -1000..2000.");
        Run x = Due.typed(true, 0, "123");
        for (int n : new int[] {-1001, 2001, Integer.MIN_VALUE, Integer.MAX_VALUE}) {
            Due.refused(x, "places(" + n + ")", Due.ILLEGAL, () -> x.places(n));
        }
        for (int n : new int[] {-1000, -999, 0, 1999, 2000}) {
            Run taken = Due.typed(true, 0, "123");
            Due.same("0.123, places(" + n + ")", taken.places(n), n > 0 ? 3 : 0);
        }
    }
}
