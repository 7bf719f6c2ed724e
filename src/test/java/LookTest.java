/** Promise 9: single digits. */
public final class LookTest {
    public static void main(String[] args) {
        seesEachDigit();
        seesTheLongestDouble();
        refusesWhatIsNotThere();
        Due.end();
    }

    private static void seesEachDigit() {
        Due.says("DIGIT k, the first one 0.");
        Run x = Due.typed(true, -7, "9081726354");
        String digits = "9081726354";
        for (int k = 0; k < digits.length(); k++) {
            Due.same("look(" + k + ")", x.look(k), digits.charAt(k) - '0');
        }
        Due.kept("look", x, "-0.9081726354e-7");
    }

    private static void seesTheLongestDouble() {
        double longest = Math.nextDown(2 * Double.MIN_NORMAL);
        String digits = new java.math.BigDecimal(longest).unscaledValue().toString();
        Run x = Due.set(longest);
        Due.same("count(0) of the longest double", x.count(0), 767);
        Due.same("look(766)", x.look(766), digits.charAt(766) - '0');
        Due.refused(x, "look(767)", Due.INDEX, () -> x.look(767));
    }

    private static void refusesWhatIsNotThere() {
        Due.says("IndexOutOfBoundsException: there is none.");
        Run x = Due.typed(false, 0, "12300");
        for (int k : new int[] {-1, 3, 4, 5, 799, 800, Integer.MIN_VALUE, Integer.MAX_VALUE}) {
            Due.refused(x, "look(" + k + ")", Due.INDEX, () -> x.look(k));
        }
        x.round(1);
        Due.refused(x, "look(1) when cut", Due.INDEX, () -> x.look(1));
        Run full = Due.longest();
        Due.type(full, Due.repeat('4', 33));
        Due.same("800 digits, look(799)", full.look(799), 4);
        Due.refused(full, "800 digits, look(800)", Due.INDEX, () -> full.look(800));
        Run zero = new Run();
        Due.refused(zero, "look(0) of 0", Due.INDEX, () -> zero.look(0));
        Run one = Due.typed(true, 4, "8");
        Due.same("one digit, look(0)", one.look(0), 8);
        Due.refused(one, "one digit, look(1)", Due.INDEX, () -> one.look(1));
        one.clear(false, 4);
        Due.refused(one, "cleared, look(0)", Due.INDEX, () -> one.look(0));
    }
}
