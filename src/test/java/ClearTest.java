/** Promise 4: 0 with or without sign, and the point for what comes. */
public final class ClearTest {
    public static void main(String[] args) {
        clears();
        setsThePoint();
        forgetsWhatCame();
        refusesPlacesOutside();
        Due.end();
    }

    private static void clears() {
        DecimalTruth x = Due.typed(false, 3, "123");
        x.clear(true, 12);
        Due.kept("clear(true, 12)", x, "-0.e0");
        Due.same("nearest() of -0", x.nearest(), 0x8000000000000000L);
        Due.throwing("look(0) of 0", Due.INDEX, () -> x.look(0));
        x.clear(false, 12);
        Due.kept("clear(false, 12)", x, "+0.e0");
        Due.same("nearest() of 0", x.nearest(), 0L);
    }

    private static void setsThePoint() {
        for (int place : new int[] {-1000, -999, -1, 0, 1, 17, 999, 1000}) {
            DecimalTruth x = Due.typed(true, place, "37");
            Due.kept("clear(true, " + place + "), 37", x, "-0.37e" + place);
        }
        DecimalTruth last = new DecimalTruth();
        last.clear(false, 5);
        last.clear(true, -6);
        last.digit(1);
        Due.kept("the latest clear", last, "-0.1e-6");
    }

    private static void forgetsWhatCame() {
        DecimalTruth x = Due.typed(false, 0, "4000");
        x.clear(false, 2);
        Due.same("digit(1) behind a clear", x.digit(1), 1);
        Due.kept("zeros in mind, clear, digit(1)", x, "+0.1e2");
        DecimalTruth y = Due.typed(false, 0, "0000");
        y.clear(false, 2);
        y.digit(1);
        Due.kept("zeros to 0, clear, digit(1)", y, "+0.1e2");
    }

    private static void refusesPlacesOutside() {
        DecimalTruth x = Due.typed(true, 9, "81");
        for (int place : new int[] {-1001, 1001, Integer.MIN_VALUE, Integer.MAX_VALUE}) {
            Due.refused(x, "clear(false, " + place + ")", Due.ILLEGAL, () -> x.clear(false, place));
        }
    }
}
