/** Promise 10: digits, place and sign. */
public final class CountTest {
    public static void main(String[] args) {
        counts();
        placeOfZeroIsZero();
        refusesOthers();
        Due.end();
    }

    private static void counts(String when, Run x, int digits, int place, int sign) {
        Due.same(when + ", count(0)", x.count(0), digits);
        Due.same(when + ", count(1)", x.count(1), place);
        Due.same(when + ", count(2)", x.count(2), sign);
    }

    private static void counts() {
        Due.says("What 0: DIGITS; 1: the PLACE; 2: 1 if it has the sign.");
        counts("new", new Run(), 0, 0, 0);
        counts("-12.5", Due.set(-12.5), 3, 2, 1);
        counts("0.001", Due.typed(false, 0, "001"), 1, -2, 0);
        counts("zeros in mind", Due.typed(true, 6, "1200"), 2, 6, 1);
        counts("1e-1002", Due.typed(true, -1000, "01"), 1, -1001, 1);
        counts("1e999", Due.typed(false, 1000, "1"), 1, 1000, 0);
        counts("99e998, round(1)", Due.changed(Due.typed(true, 1000, "99"), x -> x.round(1)), 1, 1001, 1);
        counts("the longest double", Due.longest(), 767, -307, 0);
        counts("the largest double", Due.set(Double.MAX_VALUE), 309, 309, 0);
        counts("the least double", Due.set(Double.MIN_VALUE), 751, -323, 0);
        counts("800 digits", Due.changed(Due.longest(), x -> Due.type(x, Due.repeat('1', 33))), 800, -307, 0);
    }

    private static void placeOfZeroIsZero() {
        Due.says("a PLACE ... (0 of 0)");
        counts("clear(true, 9)", Due.typed(true, 9, ""), 0, 0, 1);
        counts("clear(false, -9), zeros", Due.typed(false, -9, "00"), 0, 0, 0);
        Run x = Due.typed(true, 9, "4");
        x.places(-9);
        counts("4e8, places(-9)", x, 0, 0, 1);
        Run y = Due.typed(true, 9, "4");
        y.round(0);
        counts("4e8, round(0)", y, 0, 0, 1);
        y.set(0L);
        counts("set(0)", y, 0, 0, 0);
    }

    private static void refusesOthers() {
        Due.says("IllegalArgumentException for others.");
        Run x = Due.typed(true, 1, "5");
        for (int what : new int[] {-1, 3, 4, Integer.MIN_VALUE, Integer.MAX_VALUE}) {
            Due.refused(x, "count(" + what + ")", Due.ILLEGAL, () -> x.count(what));
        }
    }
}
