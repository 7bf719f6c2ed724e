/** Promise 9: single digits. */
public final class LookTest {
    public static void main(String[] args) {
        seesEachDigit();
        seesTheLongestDouble();
        refusesWhatIsNotThere();
        Due.end();
    }

    private static void seesEachDigit() {
        DecimalTruth x = Due.typed(true, -7, "9081726354");
        String digits = "9081726354";
        for (int k = 0; k < digits.length(); k++) {
            Due.same("look(" + k + ")", x.look(k), digits.charAt(k) - '0');
        }
        Due.kept("look", x, "-0.9081726354e-7");
    }

    private static void seesTheLongestDouble() {
        double longest = Math.nextDown(2 * Double.MIN_NORMAL);
        String digits = new java.math.BigDecimal(longest).unscaledValue().toString();
        DecimalTruth x = Due.set(longest);
        Due.same("count(0) of the longest double", x.count(0), 767);
        Due.same("look(766)", x.look(766), digits.charAt(766) - '0');
        Due.refused(x, "look(767)", Due.INDEX, () -> x.look(767));
    }

    private static void refusesWhatIsNotThere() {
        DecimalTruth x = Due.typed(false, 0, "12300");
        for (int k : new int[] {-1, 3, 4, 5, 799, 800, Integer.MIN_VALUE, Integer.MAX_VALUE}) {
            Due.refused(x, "look(" + k + ")", Due.INDEX, () -> x.look(k));
        }
        x.round(1);
        Due.refused(x, "look(1) when cut", Due.INDEX, () -> x.look(1));
        DecimalTruth zero = new DecimalTruth();
        Due.refused(zero, "look(0) of 0", Due.INDEX, () -> zero.look(0));
    }
}
