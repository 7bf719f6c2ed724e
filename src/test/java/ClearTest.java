/** Promise 4: 0 with or without sign, and the point for what comes. */
public final class ClearTest {
    public static void main(String[] args) {
        clears();
        setsThePoint();
        forgetsWhatCame();
        makesRoom();
        refusesPlacesOutside();
        Due.end();
    }

    private static void clears() {
        Due.says("The DECIMAL is 0 with or without sign");
        Run x = Due.typed(false, 3, "123");
        x.clear(true, 12);
        Due.kept("clear(true, 12)", x, "-0.e0");
        Due.same("nearest() of -0", x.nearest(), 0x8000000000000000L);
        Due.throwing("look(0) of 0", Due.INDEX, () -> x.look(0));
        x.clear(false, 12);
        Due.kept("clear(false, 12)", x, "+0.e0");
        Due.same("nearest() of 0", x.nearest(), 0L);
    }

    private static void setsThePoint() {
        Due.says("digits come behind a point at this PLACE");
        for (int place : new int[] {-1000, -999, -1, 0, 1, 17, 999, 1000}) {
            Run x = Due.typed(true, place, "37");
            Due.kept("clear(true, " + place + "), 37", x, "-0.37e" + place);
        }
        Run last = new Run();
        last.clear(false, 5);
        last.clear(true, -6);
        last.digit(1);
        Due.kept("the latest clear", last, "-0.1e-6");
    }

    private static void forgetsWhatCame() {
        Due.says("or it is set, ROUNDED, cleared: then they are gone");
        Run x = Due.typed(false, 0, "4000");
        x.clear(false, 2);
        Due.same("digit(1) behind a clear", x.digit(1), 1);
        Due.kept("zeros in mind, clear, digit(1)", x, "+0.1e2");
        Run y = Due.typed(false, 0, "0000");
        y.clear(false, 2);
        y.digit(1);
        Due.kept("zeros to 0, clear, digit(1)", y, "+0.1e2");
    }

    private static void makesRoom() {
        Due.says("The DECIMAL is 0 with or without sign");
        Run x = Due.longest();
        Due.type(x, Due.repeat('6', 33));
        Due.refused(x, "800 digits, digit(6)", Due.INDEX, () -> x.digit(6));
        x.clear(true, 1000);
        Due.kept("800 digits, clear(true, 1000)", x, "-0.e0");
        Due.same("800 digits, clear(true, 1000), digit(6)", x.digit(6), 1);
        Due.kept("800 digits, clear(true, 1000), 6", x, "-0.6e1000");
        Run low = Due.typed(false, -1000, "0");
        low.clear(false, -1000);
        Due.same("0 at -1001, clear(false, -1000), digit(0)", low.digit(0), 0);
    }

    private static void refusesPlacesOutside() {
        Due.says("IllegalArgumentException: place is not -1000..1000.");
        Run x = Due.typed(true, 9, "81");
        for (int place : new int[] {-1001, 1001, Integer.MIN_VALUE, Integer.MAX_VALUE}) {
            Due.refused(x, "clear(false, " + place + ")", Due.ILLEGAL, () -> x.clear(false, place));
            Run zero = Due.typed(true, 9, "0");
            Due.refused(zero, "0, clear(false, " + place + ")", Due.ILLEGAL, () -> zero.clear(false, place));
        }
        for (int place : new int[] {-1000, 1000}) {
            Due.throwing("clear(false, " + place + ")", Due.NOTHING, () -> x.clear(false, place));
        }
    }
}
