/** Promise 1: what a new object keeps, which exception comes first, and that a throw changes nothing. */
public final class NewObjectTest {
    public static void main(String[] args) {
        keepsZeroWithoutSign();
        everyCallMayBeTheFirst();
        objectsDoNotShare();
        theFirstOfTwoExceptionsIsThrown();
        aCallThatThrowsChangesNothing();
        aDigitThatThrowsChangesNothing();
        beyondThrowsAndChangesNothing();
        hasACallForEachOf512();
        Due.end();
    }

    private static void keepsZeroWithoutSign() {
        Due.says("DecimalTruth(): As said above.");
        Run x = new Run();
        Due.same("new", x.seen(), "+0.e0");
        Due.same("new, nearest()", x.nearest(), 0L);
        Due.same("new, digit(3)", x.digit(3), 1);
        Due.same("new, digit(3)", x.seen(), "+0.3e0");
    }

    private static void everyCallMayBeTheFirst() {
        Due.says("DecimalTruth(): As said above.");
        Due.same("new, set(1)", new Run().set(1L), 751);
        Due.same("new, digit(0)", new Run().digit(0), 0);
        Due.same("new, digit(9)", new Run().digit(9), 1);
        Due.same("new, round(0)", new Run().round(0), 0);
        Due.same("new, round(800)", new Run().round(800), 0);
        Due.same("new, places(-1000)", new Run().places(-1000), 0);
        Due.same("new, places(2000)", new Run().places(2000), 0);
        Due.same("new, nearest()", new Run().nearest(), 0L);
        Due.same("new, enough()", new Run().enough(), 0);
        Due.throwing("new, look(0)", Due.INDEX, () -> new Run().look(0));
        Due.same("new, count(0)", new Run().count(0), 0);
        Due.same("new, count(1)", new Run().count(1), 0);
        Due.same("new, count(2)", new Run().count(2), 0);
    }

    private static void objectsDoNotShare() {
        Due.says("It is kept");
        Run a = Due.typed(true, 5, "1230");
        Run b = Due.typed(false, -7, "98");
        Run c = new Run();
        a.enough();
        b.digit(0);
        a.digit(4);
        b.digit(6);
        c.digit(1);
        Due.same("its own calls", a.seen(), "-0.1234e5");
        Due.same("another one's calls", b.seen(), "+0.9806e-7");
        Due.same("the calls of two others", c.seen(), "+0.1e0");
    }

    private static void theFirstOfTwoExceptionsIsThrown() {
        Due.says("Of two exceptions that hold the one that stands first behind throws is thrown.");
        Run full = full();
        Run fullOfZeros = Due.longest();
        Due.type(fullOfZeros, Due.repeat('0', 33));
        for (int d : new int[] {-1, 10, Integer.MIN_VALUE, Integer.MAX_VALUE}) {
            Due.refused(full, "800 digits, digit(" + d + ")", Due.ILLEGAL, () -> full.digit(d));
            Due.refused(fullOfZeros, "zeros up to 800, digit(" + d + ")", Due.ILLEGAL, () -> fullOfZeros.digit(d));
            Run low = Due.typed(true, -1000, "0");
            Due.refused(low, "0 at -1001, digit(" + d + ")", Due.ILLEGAL, () -> low.digit(d));
        }
        Due.refused(full, "800 digits, digit(1)", Due.INDEX, () -> full.digit(1));
    }

    private static void refusesAllThatIsWrong(String what, Run x) {
        int length = x.count(0);
        for (long bits : new long[] {0x7FF0000000000000L, 0xFFF0000000000000L, 0x7FF8000000000000L, -1L}) {
            Due.refused(x, what + ", set(" + bits + ")", Due.ILLEGAL, () -> x.set(bits));
        }
        for (int d : new int[] {-1, 10}) {
            Due.refused(x, what + ", digit(" + d + ")", Due.ILLEGAL, () -> x.digit(d));
        }
        for (int place : new int[] {-1001, 1001}) {
            Due.refused(x, what + ", clear(true, " + place + ")", Due.ILLEGAL, () -> x.clear(true, place));
            Due.refused(x, what + ", clear(false, " + place + ")", Due.ILLEGAL, () -> x.clear(false, place));
        }
        for (int n : new int[] {-1, 801}) {
            Due.refused(x, what + ", round(" + n + ")", Due.ILLEGAL, () -> x.round(n));
        }
        for (int n : new int[] {-1001, 2001}) {
            Due.refused(x, what + ", places(" + n + ")", Due.ILLEGAL, () -> x.places(n));
        }
        for (int k : new int[] {-1, length}) {
            Due.refused(x, what + ", look(" + k + ")", Due.INDEX, () -> x.look(k));
        }
        for (int which : new int[] {-1, 3}) {
            Due.refused(x, what + ", count(" + which + ")", Due.ILLEGAL, () -> x.count(which));
        }
    }

    private static void aCallThatThrowsChangesNothing() {
        Due.says("A call that throws changes nothing.");
        refusesAllThatIsWrong("new", new Run());
        refusesAllThatIsWrong("0 with a point", Due.typed(true, 7, ""));
        refusesAllThatIsWrong("0 with a point and zeros", Due.typed(false, 7, "00"));
        refusesAllThatIsWrong("digits", Due.typed(true, 3, "12345"));
        refusesAllThatIsWrong("digits and zeros in mind", Due.typed(false, 400, "100"));
        refusesAllThatIsWrong("a double", Due.set(-0.1));
        refusesAllThatIsWrong("800 digits", full());
        Run seen = Due.typed(true, 3, "1200");
        refusesAllThatIsWrong("digits and zeros in mind", seen);
        Due.same("1200, refused calls, digit(5)", seen.digit(5), 5);
        Due.same("1200, refused calls, 5", seen.seen(), "-0.12005e3");
    }

    private static void aDigitThatThrowsChangesNothing() {
        Due.says("A call that throws changes nothing.");
        Run full = full();
        Run fullOfZeros = Due.longest();
        Due.type(fullOfZeros, Due.repeat('0', 33));
        for (int d = 0; d <= 9; d++) {
            int digit = d;
            Due.refused(full, "800 digits, digit(" + d + ")", Due.INDEX, () -> full.digit(digit));
            Due.refused(fullOfZeros, "zeros up to 800, digit(" + d + ")", Due.INDEX, () -> fullOfZeros.digit(digit));
        }
        Run low = Due.typed(true, -1000, "0");
        Due.refused(low, "0 at -1001, digit(0)", Due.INDEX, () -> low.digit(0));
        Due.refused(low, "0 at -1001, digit(0) again", Due.INDEX, () -> low.digit(0));
        low.digit(2);
        Due.same("0 at -1001, refused zeros, 2", low.seen(), "-0.2e-1001");
    }

    private static void beyondThrowsAndChangesNothing() {
        Due.says("A call that throws changes nothing.");
        Run x = Due.typed(true, 310, "1234500");
        Due.refused(x, "beyond, nearest()", Due.ARITHMETIC, () -> x.nearest());
        Due.refused(x, "beyond, enough()", Due.ARITHMETIC, () -> x.enough());
        Due.same("beyond, digit(6) behind two zeros in mind", x.digit(6), 8);
        Due.same("beyond, refused calls, 6", x.seen(), "-0.12345006e310");
    }

    private static void hasACallForEachOf512() {
        Due.says("An object is used for at most 512 calls after it has been made");
        Run typed = Due.typed(true, 200, Due.repeat('4', 510));
        Due.same("the 512th call, look(509)", typed.look(509), 4);
        Due.same("calls left", typed.callsLeft(), 0);
        Run x = new Run();
        for (int i = 0; i < 128; i++) {
            Due.same("set(largest)", x.set(0x7FEFFFFFFFFFFFFFL), 309);
            Due.same("enough()", x.enough(), 17);
            Due.same("set(least)", x.set(1L), 751);
            Due.same("enough()", x.enough(), 1);
        }
        Due.same("calls left", x.callsLeft(), 0);
    }

    private static Run full() {
        Run x = Due.longest();
        Due.type(x, Due.repeat('3', 33));
        return x;
    }
}
