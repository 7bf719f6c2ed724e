import java.math.BigDecimal;
import java.math.RoundingMode;

/** Terms, 2: what ROUNDED means, to digits and to digits behind the point. */
public final class TermsRoundedTest {
    public static void main(String[] args) {
        itHasNoMoreThanNDigits();
        itIsTheNearestOne();
        soManyDigitsBehindOrBeforeThePoint();
        ofTwoEquallyNearOnesTheEvenOne();
        theZeroBeforeTheFirstDigitIsEven();
        ofTwoEquallyNearLongOnesTheEvenOne();
        aBitMoreOrLessDecides();
        ninesGoUp();
        itIsZeroIfNothingIsLeft();
        theSignStays();
        Due.end();
    }

    private static void rounds(int place, String digits, int n, String want) {
        Run x = Due.typed(false, place, digits);
        Due.rounded(digits + "e" + place + ", round(" + n + ")", x, x.round(n), want);
    }

    private static void placed(int place, String digits, int n, String want) {
        Run x = Due.typed(false, place, digits);
        Due.rounded(digits + "e" + place + ", places(" + n + ")", x, x.places(n), want);
    }

    /** Rounds behind the first n of the digits in both ways that there are. */
    private static void cut(int place, String digits, int n, String want) {
        rounds(place, digits, n, want);
        placed(place, digits, n - place, want);
    }

    private static void itHasNoMoreThanNDigits() {
        Due.says("the nearest one that has no more");
        String digits = "1111111111";
        for (int n = 1; n <= 9; n++) {
            cut(4, digits, n, "+0." + digits.substring(0, n) + "e4");
        }
        for (int n : new int[] {10, 11, 800}) {
            cut(4, digits, n, "+0.1111111111e4");
        }
    }

    private static void itIsTheNearestOne() {
        Due.says("the nearest one that has no more");
        for (int next = 0; next <= 9; next++) {
            if (next != 5) {
                cut(3, "12" + next + "3", 2, next < 5 ? "+0.12e3" : "+0.13e3");
            }
        }
    }

    private static void soManyDigitsBehindOrBeforeThePoint() {
        Due.says("or to n digits behind the point (n below 0: so many before it)");
        for (String digits : new String[] {"1234567654321", "6234567654321", "4999999999999", "5000000000001"}) {
            BigDecimal size = new BigDecimal("0." + digits).scaleByPowerOfTen(7);
            for (int n = 7; n >= -9; n--) {
                placed(7, digits, n, Due.text(false, size.setScale(n, RoundingMode.HALF_EVEN)));
            }
        }
        placed(7, "1234567654321", 0, "+0.1234568e7");
        placed(7, "1234567654321", -1, "+0.123457e7");
        placed(7, "1234567654321", -6, "+0.1e7");
        placed(7, "6234567654321", -7, "+0.1e8");
    }

    private static void ofTwoEquallyNearOnesTheEvenOne() {
        Due.says("of two equally near ones that whose last digit (where it is cut) is even");
        String[] wants = {"+0.7e2", "+0.72e2", "+0.72e2", "+0.74e2", "+0.74e2", "+0.76e2", "+0.76e2",
            "+0.78e2", "+0.78e2", "+0.8e2"};
        for (int last = 0; last <= 9; last++) {
            cut(2, "7" + last + "5", 2, wants[last]);
        }
        cut(2, "70005", 4, "+0.7e2");
        cut(2, "70015", 4, "+0.7002e2");
    }

    private static void theZeroBeforeTheFirstDigitIsEven() {
        Due.says("of two equally near ones that whose last digit (where it is cut) is even");
        for (int place : new int[] {-1000, -323, -1, 0, 1, 309, 1000}) {
            placed(place, "5", -place, "+0.e0");
            placed(place, "50000", -place, "+0.e0");
            placed(place, "50001", -place, "+0.1e" + (place + 1));
            placed(place, "49999", -place, "+0.e0");
            placed(place, "6", -place, "+0.1e" + (place + 1));
            placed(place, "9", -place, "+0.1e" + (place + 1));
        }
    }

    private static void ofTwoEquallyNearLongOnesTheEvenOne() {
        Due.says("of two equally near ones that whose last digit (where it is cut) is even");
        Run longest = Due.longest();
        String digits = longest.kept().substring("+0.".length()).replaceFirst("e.*", "");
        Due.same("the last digit of the longest double", digits.substring(766), "5");
        int before = digits.charAt(765) - '0';
        longest.round(766);
        Due.same("the longest double, round(766), look(765)", longest.look(765), before + before % 2);
        for (int last = 1; last <= 8; last++) {
            Run full = Due.longest();
            Due.type(full, Due.repeat('1', 31) + last + "5");
            Due.same("800 digits, round(799)", full.round(799), 799);
            Due.same("800 digits that end with " + last + "5, look(798)", full.look(798), last + last % 2);
        }
    }

    private static void aBitMoreOrLessDecides() {
        Due.says("the nearest one that has no more");
        for (int last = 1; last <= 8; last++) {
            cut(2, "7" + last + "5" + Due.repeat('0', 400) + "1", 2, "+0.7" + (last + 1) + "e2");
            cut(2, "7" + last + "4" + Due.repeat('9', 400), 2, "+0.7" + last + "e2");
        }
    }

    private static void ninesGoUp() {
        Due.says("the nearest one that has no more");
        cut(2, "9995", 3, "+0.1e3");
        cut(2, "9985", 3, "+0.998e2");
        cut(2, "99949", 3, "+0.999e2");
        cut(0, "95", 1, "+0.1e1");
        cut(0, "85", 1, "+0.8e0");
        cut(-1000, "099", 1, "+0.1e-1000");
        cut(1000, Due.repeat('9', 500), 499, "+0.1e1001");
        cut(1000, Due.repeat('9', 500), 1, "+0.1e1001");
        cut(1000, "8" + Due.repeat('9', 499), 499, "+0.9e1000");
    }

    private static void itIsZeroIfNothingIsLeft() {
        Due.says("0 if nothing is left");
        for (String digits : new String[] {"", "1", "4", "5", "6", "9", "51", "99"}) {
            rounds(3, digits, 0, "+0.e0");
            placed(3, digits, -4, "+0.e0");
            placed(3, digits, -1000, "+0.e0");
            placed(-1, digits, 0, "+0.e0");
            placed(-1000, digits, 999, "+0.e0");
        }
        placed(3, "1", -3, "+0.e0");
        placed(3, "4", -3, "+0.e0");
        Run longest = Due.longest();
        Due.rounded("the longest double, places(306)", longest, longest.places(306), "+0.e0");
    }

    private static void theSignStays() {
        Due.says("The sign stays.");
        for (boolean minus : new boolean[] {false, true}) {
            String sign = minus ? "-" : "+";
            long zero = minus ? 0x8000000000000000L : 0L;
            Run x = Due.typed(minus, 2, "9996");
            Due.rounded("99.96, round(3)", x, x.round(3), sign + "0.1e3");
            Due.rounded("100, places(5)", x, x.places(5), sign + "0.1e3");
            Due.rounded("100, places(-3)", x, x.places(-3), sign + "0.e0");
            Due.same("100, places(-3), nearest()", x.nearest(), zero);
            Due.rounded("0, round(0)", x, x.round(0), sign + "0.e0");
            Due.rounded("0, enough()", x, x.enough(), sign + "0.e0");
            Due.rounded("0, places(-1000)", x, x.places(-1000), sign + "0.e0");
            Run y = Due.typed(minus, 2, "9996");
            Due.rounded("99.96, round(0)", y, y.round(0), sign + "0.e0");
            y.digit(6);
            Due.kept("0, digit(6)", y, sign + "0.6e0");
        }
    }
}
