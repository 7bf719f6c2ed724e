import java.math.BigDecimal;

/** Terms, 1: what a DOUBLE and a DECIMAL are, the zeros kept in mind, and the point for what comes to 0. */
public final class TermsDecimalTest {
    private static final long SIGN = 0x8000000000000000L;
    private static final int[] EDGES_OF_POINT = {-1000, -999, -1, 0, 1, 999, 1000};

    public static void main(String[] args) {
        aDoubleIsNeitherInfiniteNorNoNumber();
        aDoublesSizeMayBeAnyOfThem();
        thereAreUpTo800Digits();
        eachDigitIsFrom0To9();
        theFirstAndTheLastDigitAreNotZero();
        zeroHasNoDigits();
        atFirstItIsZeroWithoutSign();
        zerosAreKeptInMindTillAnotherOneComes();
        zerosStayInMindWhenItIsOnlyLookedAt();
        zerosInMindAreGoneThen();
        zerosInMindThatAreGoneMakeRoom();
        digitsToZeroComeBehindThePointOfTheLatestClear();
        thePointIsZeroAtFirst();
        thePointIsZeroWhenSetOrRoundedSince();
        thePointStaysWhenItIsOnlyLookedAt();
        eachZeroMakesThePointOneLess();
        Due.end();
    }

    private static void aDoubleIsNeitherInfiniteNorNoNumber() {
        Due.says("A DOUBLE, by its 64 bits, neither infinite nor no number");
        for (long sign : new long[] {0, SIGN}) {
            Run x = new Run();
            Due.same("set(the largest)", x.set(sign | 0x7FEFFFFFFFFFFFFFL), 309);
            for (long size : new long[] {0x7FF0000000000000L, 0x7FF0000000000001L, 0x7FF8000000000000L, ~SIGN}) {
                String call = "set(0x" + Long.toHexString(sign | size) + ")";
                Due.refused(x, call, Due.ILLEGAL, () -> x.set(sign | size));
            }
        }
    }

    private static void aDoublesSizeMayBeAnyOfThem() {
        Due.says("sign, and size M * 2 ** P");
        long[] sizes = {
            0, 1, 2, 3, 0x000FFFFFFFFFFFFFL, 0x0010000000000000L, 0x0010000000000001L, 0x001FFFFFFFFFFFFFL,
            0x0020000000000000L, 0x3FEFFFFFFFFFFFFFL, 0x3FF0000000000000L, 0x3FF0000000000001L,
            0x433FFFFFFFFFFFFFL, 0x4340000000000000L, 0x4340000000000001L, 0x7FDFFFFFFFFFFFFFL,
            0x7FE0000000000000L, 0x7FEFFFFFFFFFFFFFL
        };
        for (long size : sizes) {
            BigDecimal exact = new BigDecimal(Double.longBitsToDouble(size));
            for (boolean minus : new boolean[] {false, true}) {
                Run x = new Run();
                String want = Due.text(minus, exact);
                String call = (minus ? "set(-0x" : "set(0x") + Long.toHexString(size) + ")";
                Due.rounded(call, x, x.set(minus ? size | SIGN : size), want);
            }
        }
    }

    private static void thereAreUpTo800Digits() {
        Due.says("DIGITS (0 to 9; up to 800");
        String more = "012345678901234567890123456789012";
        Run x = Due.longest();
        Due.same("the longest double, count(0)", x.count(0), 800 - more.length());
        String start = x.kept();
        Due.type(x, more);
        Due.same("800 digits, count(0)", x.count(0), 800);
        Due.kept("800 digits", x, start.replace("e", more + "e"));
        Due.same("800 digits, look(799)", x.look(799), 2);
        Due.same("800 digits, round(800)", x.round(800), 800);
        Due.same("800 digits, places(2000)", x.places(2000), 800);
        Due.kept("800 digits, rounded to no fewer", x, start.replace("e", more + "e"));
        Due.refused(x, "digit(1) behind 800 digits", Due.INDEX, () -> x.digit(1));
    }

    private static void eachDigitIsFrom0To9() {
        Due.says("DIGITS (0 to 9");
        Run x = Due.typed(false, 10, "1023456789");
        for (int k = 0; k < 10; k++) {
            Due.same("1023456789, look(" + k + ")", x.look(k), "1023456789".charAt(k) - '0');
        }
    }

    private static void theFirstAndTheLastDigitAreNotZero() {
        Due.says("the first one and the last one are not 0");
        Due.kept("set(100)", Due.set(100.0), "+0.1e3");
        Due.kept("set(1e22)", Due.set(1e22), "+0.1e23");
        Due.kept("set(0.0625)", Due.set(0.0625), "+0.625e-1");
        Due.kept("zeros, 12, zeros", Due.typed(false, 5, "00012000"), "+0.12e2");
        String digits = "100200300400";
        for (int n = 1; n <= digits.length(); n++) {
            BigDecimal rounded = Model.rounded(new BigDecimal(digits), n);
            Run x = Due.typed(false, 12, digits);
            x.round(n);
            Due.kept(digits + ", round(" + n + ")", x, Due.text(false, rounded));
            Run y = Due.typed(false, 12, digits);
            y.places(n - 12);
            Due.kept(digits + ", places(" + (n - 12) + ")", y, Due.text(false, rounded));
        }
        Run enough = Due.typed(false, 3, "10000000000000000000000001");
        enough.enough();
        Due.kept("100 and a bit, enough()", enough, "+0.1e3");
    }

    private static void isZero(String way, Run x, boolean minus) {
        Due.says("DIGITS ... of 0 none");
        Due.same(way + ", count(0)", x.count(0), 0);
        Due.refused(x, way + ", look(0)", Due.INDEX, () -> x.look(0));
        Due.says("0.DIGITS * 10 ** PLACE (0 of 0)");
        Due.same(way + ", count(1)", x.count(1), 0);
        Due.same(way + ", count(2)", x.count(2), minus ? 1 : 0);
        Due.same(way + ", nearest()", x.nearest(), minus ? SIGN : 0);
    }

    private static void zeroHasNoDigits() {
        isZero("new", new Run(), false);
        isZero("set(0)", Due.set(0.0), false);
        isZero("set(-0)", Due.set(-0.0), true);
        isZero("clear(true, 1000)", Due.typed(true, 1000, ""), true);
        isZero("clear(false, -1000)", Due.typed(false, -1000, ""), false);
        isZero("clear(true, -1000), a zero", Due.typed(true, -1000, "0"), true);
        isZero("new, zeros", Due.typed(false, 0, "00000"), false);
        isZero("99e5, round(0)", Due.changed(Due.typed(true, 7, "99"), x -> x.round(0)), true);
        isZero("5e6, places(-7)", Due.changed(Due.typed(true, 7, "5"), x -> x.places(-7)), true);
        isZero("99e5, places(-8)", Due.changed(Due.typed(false, 7, "99"), x -> x.places(-8)), false);
        isZero("2e-324, enough()", Due.changed(Due.typed(true, -323, "2"), Run::enough), true);
    }

    private static void atFirstItIsZeroWithoutSign() {
        Due.says("It is kept; at first 0 without sign.");
        Due.same("at first", new Run().seen(), "+0.e0");
        Due.kept("nothing", new Run(), "+0.e0");
    }

    private static void zerosAreKeptInMindTillAnotherOneComes() {
        Due.says("zeros at its end are kept in mind till another one comes");
        Run x = Due.typed(true, 4, "5");
        for (int i = 0; i < 3; i++) {
            Due.same("5 and zeros, digit(0)", x.digit(0), 1);
            Due.kept("5 and zeros", x, "-0.5e4");
            Due.refused(x, "5 and zeros, look(1)", Due.INDEX, () -> x.look(1));
        }
        Due.same("5000, digit(7)", x.digit(7), 5);
        Due.kept("5000, digit(7)", x, "-0.50007e4");
        Due.same("50007, digit(8)", x.digit(8), 6);
        Due.same("500078, digit(0)", x.digit(0), 6);
        Due.same("5000780, digit(9)", x.digit(9), 8);
        Due.kept("5000780, digit(9)", x, "-0.50007809e4");
        Run hundred = Due.set(100.0);
        Due.same("set(100), digit(0)", hundred.digit(0), 1);
        Due.same("set(100), 0, digit(5)", hundred.digit(5), 3);
        Due.kept("set(100), 0, 5", hundred, "+0.105e3");
    }

    private static void zerosStayInMindWhenItIsOnlyLookedAt() {
        Run x = Due.typed(false, 4, "300");
        x.nearest();
        x.look(0);
        x.count(0);
        x.count(1);
        x.count(2);
        Due.same("300, looked at, digit(7)", x.digit(7), 4);
        Due.kept("300, looked at, 7", x, "+0.3007e4");
    }

    private static void gone(String change, Due.Change by, String want) {
        Run x = Due.changed(Due.typed(true, 3, "6400"), by);
        x.digit(7);
        Due.kept("6400, " + change + ", digit(7)", x, want);
    }

    private static void zerosInMindAreGoneThen() {
        Due.says("or it is set, ROUNDED, cleared: then they are gone");
        gone("set(0.5)", x -> x.set(Double.doubleToRawLongBits(0.5)), "+0.57e0");
        gone("set(640)", x -> x.set(Double.doubleToRawLongBits(640.0)), "+0.647e3");
        gone("set(0)", x -> x.set(0L), "+0.7e0");
        gone("round(1)", x -> x.round(1), "-0.67e3");
        gone("round(2)", x -> x.round(2), "-0.647e3");
        gone("round(4)", x -> x.round(4), "-0.647e3");
        gone("round(800)", x -> x.round(800), "-0.647e3");
        gone("round(0)", x -> x.round(0), "-0.7e0");
        gone("places(-2)", x -> x.places(-2), "-0.67e3");
        gone("places(1)", x -> x.places(1), "-0.647e3");
        gone("places(2000)", x -> x.places(2000), "-0.647e3");
        gone("places(-1000)", x -> x.places(-1000), "-0.7e0");
        gone("enough()", Run::enough, "-0.647e3");
        gone("clear(false, 12)", x -> x.clear(false, 12), "+0.7e12");
    }

    private static void makesRoom(String change, Due.Change by, int want) {
        Run x = Due.longest();
        Due.type(x, Due.repeat('0', 800 - x.count(0)));
        Due.refused(x, "digit(7) behind zeros in mind up to 800", Due.INDEX, () -> x.digit(7));
        by.on(x);
        Due.same("zeros in mind up to 800, " + change + ", digit(7)", x.digit(7), want);
    }

    private static void zerosInMindThatAreGoneMakeRoom() {
        makesRoom("set(5)", x -> x.set(Double.doubleToRawLongBits(5)), 2);
        makesRoom("round(800)", x -> x.round(800), 768);
        makesRoom("places(2000)", x -> x.places(2000), 768);
        makesRoom("enough()", Run::enough, 18);
        makesRoom("clear(true, 0)", x -> x.clear(true, 0), 1);
    }

    private static void digitsToZeroComeBehindThePointOfTheLatestClear() {
        Due.says("to 0 they come behind a point at a PLACE, that of the latest clear()");
        for (int place : EDGES_OF_POINT) {
            Run x = Due.typed(false, place, "");
            Due.same("clear(false, " + place + "), digit(3)", x.digit(3), 1);
            Due.kept("clear(false, " + place + "), 3", x, "+0.3e" + place);
        }
        Run x = Due.typed(false, 5, "12");
        x.clear(true, 900);
        x.clear(true, -6);
        x.digit(3);
        Due.kept("clear(true, 900), clear(true, -6), 3", x, "-0.3e-6");
        x.set(0L);
        x.round(3);
        x.clear(false, 8);
        x.digit(3);
        Due.kept("set(0), round(3), clear(false, 8), 3", x, "+0.3e8");
    }

    private static void thePointIsZeroAtFirst() {
        Due.says("0 if it was set or ROUNDED since, or at first");
        Run x = new Run();
        x.digit(3);
        Due.kept("new, 3", x, "+0.3e0");
    }

    private static void pointIsZero(String change, Due.Change by, String want) {
        for (int place : EDGES_OF_POINT) {
            for (String digits : new String[] {"", "0"}) {
                Run x = Due.changed(Due.typed(true, place, digits), by);
                x.digit(3);
                Due.kept("clear(true, " + place + "), " + digits + ", " + change + ", 3", x, want);
            }
        }
    }

    private static void thePointIsZeroWhenSetOrRoundedSince() {
        Due.says("0 if it was set or ROUNDED since, or at first");
        pointIsZero("set(0)", x -> x.set(0L), "+0.3e0");
        pointIsZero("set(-0)", x -> x.set(SIGN), "-0.3e0");
        pointIsZero("round(0)", x -> x.round(0), "-0.3e0");
        pointIsZero("round(800)", x -> x.round(800), "-0.3e0");
        pointIsZero("places(-1000)", x -> x.places(-1000), "-0.3e0");
        pointIsZero("places(2000)", x -> x.places(2000), "-0.3e0");
        pointIsZero("enough()", Run::enough, "-0.3e0");
        Run gone = Due.typed(true, 9, "4");
        gone.places(-9);
        gone.digit(3);
        Due.kept("4e8, places(-9), 3", gone, "-0.3e0");
        Run low = Due.typed(true, -500, "4");
        low.enough();
        low.digit(3);
        Due.kept("4e-501, enough(), 3", low, "-0.3e0");
    }

    private static void thePointStaysWhenItIsOnlyLookedAt() {
        Due.says("to 0 they come behind a point at a PLACE, that of the latest clear()");
        Run x = Due.typed(true, 30, "00");
        x.nearest();
        x.count(0);
        x.count(1);
        x.count(2);
        x.digit(3);
        Due.kept("clear(true, 30), 00, looked at, 3", x, "-0.3e28");
    }

    private static void eachZeroMakesThePointOneLess() {
        Due.says("each zero makes it one less");
        for (int zeros = 0; zeros <= 6; zeros++) {
            Run x = Due.typed(false, 3, Due.repeat('0', zeros));
            x.digit(8);
            Due.kept("clear(false, 3), " + zeros + " zeros, 8", x, "+0.8e" + (3 - zeros));
            Run fresh = new Run();
            Due.type(fresh, Due.repeat('0', zeros));
            fresh.digit(8);
            Due.kept("new, " + zeros + " zeros, 8", fresh, "+0.8e" + -zeros);
        }
        Run rounded = Due.typed(true, 70, "00");
        rounded.round(0);
        Due.same("round(0), digit(0)", rounded.digit(0), 0);
        rounded.digit(8);
        Due.kept("clear(true, 70), 00, round(0), 0, 8", rounded, "-0.8e-1");
        Due.kept("clear(true, 1000), 500 zeros, 8", Due.typed(true, 1000, Due.repeat('0', 500) + "8"), "-0.8e500");
    }
}
