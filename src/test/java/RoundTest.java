import java.math.BigDecimal;
import java.math.MathContext;
import java.math.RoundingMode;

/** Promise 5: rounding to a number of digits. */
public final class RoundTest {
    public static void main(String[] args) {
        roundsToTheNearest();
        roundsTiesToEven();
        carries();
        carriesFarther();
        dropsZeros();
        keepsWhatHasNoMore();
        rounds800Digits();
        toNoDigitsIsZero();
        roundsLongOnes();
        forgetsWhatCame();
        refusesOtherNumbers();
        Due.end();
    }

    private static void rounds(int place, String digits, int n, String want) {
        Run x = Due.typed(true, place, digits);
        Due.rounded(digits + "e" + place + ", round(" + n + ")", x, x.round(n), want);
    }

    private static void roundsToTheNearest() {
        Due.says("It is ROUNDED to n digits: how many DIGITS.");
        rounds(2, "1234", 2, "-0.12e2");
        rounds(2, "1254", 2, "-0.13e2");
        rounds(2, "1249999", 2, "-0.12e2");
        rounds(-5, "16", 1, "-0.2e-5");
        rounds(-5, "14", 1, "-0.1e-5");
    }

    private static void roundsTiesToEven() {
        rounds(1, "25", 1, "-0.2e1");
        rounds(1, "35", 1, "-0.4e1");
        rounds(1, "2500001", 1, "-0.3e1");
        rounds(1, "1205", 3, "-0.12e1");
        rounds(1, "1215", 3, "-0.122e1");
        rounds(1, "12050001", 3, "-0.121e1");
    }

    private static void carries() {
        rounds(2, "995", 2, "-0.1e3");
        rounds(2, "985", 2, "-0.98e2");
        rounds(2, "9949", 2, "-0.99e2");
        rounds(0, "96", 1, "-0.1e1");
        rounds(0, "95", 1, "-0.1e1");
        rounds(0, "1996", 3, "-0.2e0");
        rounds(1000, "999", 2, "-0.1e1001");
    }

    /** Only the place of a clear has a limit; each time nines go up the place is one more. */
    private static void carriesFarther() {
        Due.says("It is ROUNDED to n digits: how many DIGITS.");
        Run x = Due.typed(true, 1000, "9");
        for (int place = 1001; place <= 1010; place++) {
            x.digit(9);
            Due.same("99, round(1)", x.round(1), 1);
            Due.kept("99, round(1)", x, "-0.1e" + place);
            for (int d = 2; d <= 9; d++) {
                x.digit(9);
                x.round(1);
            }
            Due.kept("nines, round(1)", x, "-0.9e" + place);
        }
        Due.same("9e1009, places(-1000)", x.places(-1000), 1);
        Due.kept("9e1009, places(-1000)", x, "-0.9e1010");
        Due.refused(x, "9e1009, nearest()", Due.ARITHMETIC, () -> x.nearest());
    }

    private static void dropsZeros() {
        rounds(0, "5007", 2, "-0.5e0");
        rounds(0, "5007", 3, "-0.501e0");
        rounds(0, "120034", 4, "-0.12e0");
    }

    private static void keepsWhatHasNoMore() {
        rounds(7, "125", 3, "-0.125e7");
        rounds(7, "125", 4, "-0.125e7");
        rounds(7, "125", 800, "-0.125e7");
        rounds(7, "", 3, "-0.e0");
    }

    private static void rounds800Digits() {
        Due.says("It is ROUNDED to n digits: how many DIGITS.");
        String more = Due.repeat('9', 32) + "6";
        Run whole = Due.longest();
        Due.type(whole, more);
        String text = whole.kept();
        Due.rounded("800 digits, round(800)", whole, whole.round(800), text);
        for (int n : new int[] {799, 768, 767, 766, 400, 17, 1, 0}) {
            Run x = Due.longest();
            Due.type(x, more);
            String want = Due.text(false, Model.rounded(new BigDecimal(text), n));
            Due.rounded("800 digits, round(" + n + ")", x, x.round(n), want);
        }
    }

    private static void toNoDigitsIsZero() {
        rounds(3, "1", 0, "-0.e0");
        rounds(3, "5", 0, "-0.e0");
        rounds(3, "7", 0, "-0.e0");
        rounds(3, "99", 0, "-0.e0");
        rounds(3, "", 0, "-0.e0");
    }

    private static void roundsLongOnes() {
        for (double d : new double[] {Double.MIN_VALUE, Double.MIN_NORMAL, Math.PI, Double.MAX_VALUE, 0.1}) {
            Run x = Due.set(d);
            BigDecimal size = new BigDecimal(d);
            for (int n = x.count(0); n >= 1; n -= 7) {
                size = size.round(new MathContext(n, RoundingMode.HALF_EVEN));
                x.round(n);
                Due.kept(d + " round(" + n + ")", x, Due.text(false, size));
            }
        }
    }

    private static void forgetsWhatCame() {
        Due.says("or it is set, ROUNDED, cleared: then they are gone");
        Run x = Due.typed(false, 3, "4200");
        Due.same("round(800) with zeros in mind", x.round(800), 2);
        x.digit(1);
        Due.kept("zeros in mind, round(800), digit(1)", x, "+0.421e3");
        Run zero = Due.typed(true, 9, "0");
        Due.same("round(4) of 0", zero.round(4), 0);
        zero.digit(1);
        Due.kept("clear(true, 9), round(4), digit(1)", zero, "-0.1e0");
        Run gone = Due.typed(true, 9, "1");
        gone.round(0);
        gone.digit(0);
        gone.digit(1);
        Due.kept("1e8, round(0), 01", gone, "-0.1e-1");
    }

    private static void refusesOtherNumbers() {
        Due.says("IllegalArgumentException: n is not 0..800.");
        Run x = Due.typed(true, 0, "123");
        for (int n : new int[] {-1, 801, Integer.MIN_VALUE, Integer.MAX_VALUE}) {
            Due.refused(x, "round(" + n + ")", Due.ILLEGAL, () -> x.round(n));
        }
        for (int n : new int[] {0, 1, 799, 800}) {
            Run taken = Due.typed(true, 0, "123");
            Due.same("123, round(" + n + ")", taken.round(n), Math.min(n, 3));
        }
    }
}
