import java.math.BigDecimal;
import java.math.MathContext;
import java.math.RoundingMode;

/** Promise 8: the least number of digits that still has the same nearest double. */
public final class EnoughTest {
    public static void main(String[] args) {
        shortensDoubles();
        needsMoreBesideAMiddle();
        mayHoldWithFewerAndFailWithMore();
        hasTheMiddleOnlyIfEven();
        countsBeyondAsAnother();
        comparesWithNothingOfEarlierCalls();
        isZeroForZero();
        isZeroTillHalfOfTheLeast();
        shortens800Digits();
        roundsAndForgets();
        refusesWhatIsBeyond();
        Due.end();
    }

    private static void shortens(String what, Run x, String want) {
        Due.rounded(what + ", enough()", x, x.enough(), want);
    }

    private static void shortensDoubles() {
        Due.says("the least n so that the DECIMAL ROUNDED to n digits"
            + " has the same NEAREST double as it has itself");
        shortens("0.1", Due.set(0.1), "+0.1e0");
        shortens("-0.3", Due.set(-0.3), "-0.3e0");
        shortens("1/3", Due.set(1.0 / 3), "+0.3333333333333333e0");
        shortens("0.1 + 0.2", Due.set(0.1 + 0.2), "+0.30000000000000004e0");
        shortens("1e23", Due.set(1e23), "+0.1e24");
        shortens("5e-324", Due.set(Double.MIN_VALUE), "+0.5e-323");
        shortens("largest", Due.set(Double.MAX_VALUE), "+0.17976931348623157e309");
        shortens("least normal", Due.set(Double.MIN_NORMAL), "+0.22250738585072014e-307");
        // 16 digits that have this double end with 2, but it is not rounded to these.
        shortens("2 ** -44", Due.set(0x1p-44), "+0.56843418860808015e-13");
        shortens("1", Due.set(1.0), "+0.1e1");
        shortens("1 and a bit", Due.set(Math.nextUp(1.0)), "+0.10000000000000002e1");
        shortens("just below 1", Due.set(Math.nextDown(1.0)), "+0.9999999999999999e0");
    }

    private static void needsMoreBesideAMiddle() {
        shortens("2 ** 53 + 1 and a bit", Due.typed(false, 16, "90071992547409930000001"),
            "+0.90071992547409930000001e16");
        shortens("2 ** 53 + 1", Due.typed(false, 16, "9007199254740993"), "+0.9007199254740993e16");
        shortens("2 ** 53 + 1 less a bit", Due.typed(false, 16, "900719925474099299999999"),
            "+0.9007199254740993e16");
        String middle = Due.middleAbove(Double.MIN_VALUE).unscaledValue().toString().substring(0, 450);
        Run x = Due.typed(false, -323, middle);
        Due.same("1.5 times the least", x.enough(), leastBySearch("0." + middle + "e-323"));
    }

    /**
     * Above a power of two a double reaches farther than below it. Each case is looked for, not known:
     * a decimal that holds with n digits and fails with n + 1.
     */
    private static void mayHoldWithFewerAndFailWithMore() {
        int found = 0;
        for (int e = -300; e <= 300; e++) {
            BigDecimal low = Due.middleAbove(Math.nextDown(Math.scalb(1.0, e))).stripTrailingZeros();
            for (int digits = 17; digits <= 19; digits++) {
                String text = text(low, digits);
                if (holds(text, digits - 2) && !holds(text, digits - 1)) {
                    found++;
                }
                Run x = Due.typed(new BigDecimal(text));
                Due.same(text + ", enough()", x.enough(), leastBySearch(text));
                BigDecimal rounded = Model.rounded(new BigDecimal(text), x.count(0));
                Due.kept(text + ", enough()", x, Due.text(false, rounded));
            }
        }
        Due.same("some case of fewer digits that hold where more fail was among them", found > 0 ? 1 : 0, 1);
    }

    /** The first digits of a size, one more in the last place. */
    private static String text(BigDecimal size, int digits) {
        BigDecimal cut = size.round(new MathContext(digits, RoundingMode.DOWN));
        return cut.add(cut.ulp()).toString();
    }

    private static boolean holds(String text, int n) {
        return Model.rounded(new BigDecimal(text), n).doubleValue() == Double.parseDouble(text);
    }

    private static int leastBySearch(String text) {
        int n = 1;
        while (!holds(text, n)) {
            n++;
        }
        return n;
    }

    private static void hasTheMiddleOnlyIfEven() {
        // 10 ** 23 is a middle; the double below it is even and has it, the one above it is odd.
        shortens("1e23 less a bit", Due.typed(false, 23, "99999999999999999999"), "+0.1e24");
        shortens("1e23 and a bit", Due.typed(false, 24, "1000000000000000000001"),
            "+0.1000000000000000000001e24");
        // 9007199254740995 is the middle of an odd one below and an even one above.
        shortens("2 ** 53 + 3 less a bit", Due.typed(false, 16, "90071992547409949"),
            "+0.90071992547409949e16");
        shortens("2 ** 53 + 3", Due.typed(false, 16, "9007199254740995"), "+0.9007199254740995e16");
        shortens("2 ** 53 + 3 and a bit", Due.typed(false, 16, "90071992547409951"),
            "+0.9007199254740995e16");
    }

    private static void countsBeyondAsAnother() {
        shortens("17976931348623158e292", Due.typed(false, 309, "17976931348623158"),
            "+0.17976931348623158e309");
        String almost = Due.middleAbove(Double.MAX_VALUE).subtract(BigDecimal.ONE).toString();
        Run x = Due.typed(false, 309, almost);
        int n = x.enough();
        Due.same("just not beyond, enough()", n, leastBySearch(almost));
        long largest = Double.doubleToRawLongBits(Double.MAX_VALUE);
        Due.same("just not beyond, enough(), nearest()", x.nearest(), largest);
    }

    /** Rows are used again: digits of a longer decimal still stand in them behind a shorter one. */
    private static void comparesWithNothingOfEarlierCalls() {
        String[] middles = {"9007199254740993", "9007199254740995", "9007199254740997", "18014398509481986"};
        Run x = new Run();
        for (int i = 0; i < 8; i++) {
            String middle = middles[i / 2];
            x.set(Double.doubleToRawLongBits(Math.nextUp(Double.MIN_NORMAL)));
            x.enough();
            x.clear(false, middle.length());
            Due.type(x, middle + (i % 2 == 0 ? "000001" : "04999996"));
            int want = leastBySearch(middle + (i % 2 == 0 ? ".000001" : ".04999996"));
            Due.same(middle + " and a bit, enough() on a used object", x.enough(), want);
        }
    }

    private static void isZeroForZero() {
        Due.says("(0 if that is 0)");
        shortens("new", new Run(), "+0.e0");
        shortens("-0", Due.set(-0.0), "-0.e0");
        shortens("-2e-324", Due.typed(true, -323, "2"), "-0.e0");
        shortens("9e-1001", Due.typed(false, -1000, "9"), "+0.e0");
    }

    /** Half of the least double is the border between 0 and it. */
    private static void isZeroTillHalfOfTheLeast() {
        Due.says("(0 if that is 0)");
        String half = Due.middleAbove(0.0).unscaledValue().toString().substring(0, 500);
        shortens("just below half of the least", Due.typed(true, -323, half), "-0.e0");
        Run above = Due.typed(true, -323, half + "9");
        int n = above.enough();
        Due.same("just above half of the least, enough()", n, leastBySearch("0." + half + "9e-323"));
        Due.same("just above half of the least, enough(), nearest()", above.nearest(), 0x8000000000000001L);
        shortens("2.4e-324", Due.typed(false, -323, "24"), "+0.e0");
        shortens("2.5e-324", Due.typed(false, -323, "25"), "+0.25e-323");
        shortens("2.6e-324", Due.typed(false, -323, "26"), "+0.3e-323");
    }

    private static void shortens800Digits() {
        Due.says("How many digits are enough");
        Run x = Due.longest();
        Due.type(x, Due.repeat('7', 33));
        shortens("800 digits", x, "+0.44501477170144023e-307");
        Run many = Due.typed(false, 16, "9007199254740993" + Due.repeat('0', 480) + "1");
        Due.same("2 ** 53 + 1 and the least bit, enough()", many.enough(), 497);
        Due.same("2 ** 53 + 1 and the least bit, look(496)", many.look(496), 1);
    }

    private static void roundsAndForgets() {
        Due.says("It is ROUNDED so then.");
        Run x = Due.typed(false, 1, "2500");
        Due.same("2.500, enough()", x.enough(), 2);
        x.digit(7);
        Due.kept("2.500, enough(), 7", x, "+0.257e1");
        Run zero = Due.typed(true, 12, "0");
        Due.same("0, enough()", zero.enough(), 0);
        zero.digit(7);
        Due.kept("clear(true, 12), enough(), 7", zero, "-0.7e0");
        Run tiny = Due.typed(true, -500, "1");
        tiny.enough();
        tiny.digit(7);
        Due.kept("1e-501, enough(), 7", tiny, "-0.7e0");
    }

    private static void refusesWhatIsBeyond() {
        Due.says("ArithmeticException: it is BEYOND (it stays).");
        Run at = Due.typed(Due.middleAbove(Double.MAX_VALUE));
        Due.refused(at, "2 ** 1024 - 2 ** 970, enough()", Due.ARITHMETIC, () -> at.enough());
        Run x = Due.typed(true, 309, "200");
        Due.refused(x, "2e308, enough()", Due.ARITHMETIC, () -> x.enough());
        x.digit(1);
        Due.kept("2e308, enough(), 1", x, "-0.2001e309");
        Run far = Due.typed(false, 1000, "1");
        Due.refused(far, "1e999, enough()", Due.ARITHMETIC, () -> far.enough());
    }
}
