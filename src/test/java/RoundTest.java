import java.math.BigDecimal;
import java.math.MathContext;
import java.math.RoundingMode;

/** Promise 5: rounding to a number of digits. */
public final class RoundTest {
    public static void main(String[] args) {
        roundsToTheNearest();
        roundsTiesToEven();
        carries();
        dropsZeros();
        keepsWhatHasNoMore();
        toNoDigitsIsZero();
        roundsLongOnes();
        forgetsWhatCame();
        refusesOtherNumbers();
        Due.end();
    }

    private static void rounds(int place, String digits, int n, String want) {
        DecimalTruth x = Due.typed(true, place, digits);
        Due.rounded(digits + "e" + place + ", round(" + n + ")", x, x.round(n), want);
    }

    private static void roundsToTheNearest() {
        rounds(2, "1234", 2, "-0.12e2");
        rounds(2, "1254", 2, "-0.13e2");
        rounds(2, "1249999", 2, "-0.12e2");
        rounds(-5, "16", 1, "-0.2e-5");
        rounds(-5, "14", 1, "-0.1e-5");
    }

    private static void roundsTiesToEven() {
        rounds(1, "25", 1, "-0.2e1");
        rounds(1, "35", 1, "-0.4e1");
        rounds(1, "2500001", 1, "-0.3e1");
        rounds(1, "1205", 3, "-0.12e1");
        rounds(1, "1215", 3, "-0.122e1");
        rounds(1, "12050001", 3, "-0.121e1");
    }

    private static void carries() {
        rounds(2, "995", 2, "-0.1e3");
        rounds(2, "985", 2, "-0.98e2");
        rounds(2, "9949", 2, "-0.99e2");
        rounds(0, "96", 1, "-0.1e1");
        rounds(0, "95", 1, "-0.1e1");
        rounds(0, "1996", 3, "-0.2e0");
        rounds(1000, "999", 2, "-0.1e1001");
    }

    private static void dropsZeros() {
        rounds(0, "5007", 2, "-0.5e0");
        rounds(0, "5007", 3, "-0.501e0");
        rounds(0, "120034", 4, "-0.12e0");
    }

    private static void keepsWhatHasNoMore() {
        rounds(7, "125", 3, "-0.125e7");
        rounds(7, "125", 4, "-0.125e7");
        rounds(7, "125", 800, "-0.125e7");
        rounds(7, "", 3, "-0.e0");
    }

    private static void toNoDigitsIsZero() {
        rounds(3, "1", 0, "-0.e0");
        rounds(3, "5", 0, "-0.e0");
        rounds(3, "7", 0, "-0.e0");
        rounds(3, "99", 0, "-0.e0");
        rounds(3, "", 0, "-0.e0");
    }

    private static void roundsLongOnes() {
        for (double d : new double[] {Double.MIN_VALUE, Double.MIN_NORMAL, Math.PI, Double.MAX_VALUE, 0.1}) {
            DecimalTruth x = Due.set(d);
            BigDecimal size = new BigDecimal(d);
            for (int n = x.count(0); n >= 1; n -= 7) {
                size = size.round(new MathContext(n, RoundingMode.HALF_EVEN));
                x.round(n);
                Due.kept(d + " round(" + n + ")", x, Due.text(false, size));
            }
        }
    }

    private static void forgetsWhatCame() {
        DecimalTruth x = Due.typed(false, 3, "4200");
        Due.same("round(800) with zeros in mind", x.round(800), 2);
        x.digit(1);
        Due.kept("zeros in mind, round(800), digit(1)", x, "+0.421e3");
        DecimalTruth zero = Due.typed(true, 9, "0");
        Due.same("round(4) of 0", zero.round(4), 0);
        zero.digit(1);
        Due.kept("clear(true, 9), round(4), digit(1)", zero, "-0.1e0");
        DecimalTruth gone = Due.typed(true, 9, "1");
        gone.round(0);
        gone.digit(0);
        gone.digit(1);
        Due.kept("1e8, round(0), 01", gone, "-0.1e-1");
    }

    private static void refusesOtherNumbers() {
        DecimalTruth x = Due.typed(true, 0, "123");
        for (int n : new int[] {-1, 801, Integer.MIN_VALUE, Integer.MAX_VALUE}) {
            Due.refused(x, "round(" + n + ")", Due.ILLEGAL, () -> x.round(n));
        }
    }
}
