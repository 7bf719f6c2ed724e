/** Promise 1: what a new object keeps, which exception comes first, and that a throw changes nothing. */
public final class NewObjectTest {
    public static void main(String[] args) {
        keepsZeroWithoutSign();
        objectsDoNotShare();
        firstExceptionComesFirst();
        throwsChangeNothing();
        throwsLeaveZerosInMind();
        throwsLeaveThePoint();
        Due.end();
    }

    private static void keepsZeroWithoutSign() {
        DecimalTruth x = new DecimalTruth();
        Due.kept("new", x, "+0.e0");
        Due.same("nearest() when new", x.nearest(), 0L);
        Due.same("digit(3) when new", x.digit(3), 1);
        Due.kept("new, digit(3)", x, "+0.3e0");
        Due.same("enough() when new", new DecimalTruth().enough(), 0);
    }

    private static void objectsDoNotShare() {
        DecimalTruth a = Due.typed(true, 5, "123");
        DecimalTruth b = Due.typed(false, -7, "98");
        a.enough();
        Due.kept("another one's calls", b, "+0.98e-7");
        Due.kept("its own calls", a, "-0.123e5");
    }

    private static void firstExceptionComesFirst() {
        DecimalTruth full = full();
        Due.refused(full, "digit(10) when full", Due.ILLEGAL, () -> full.digit(10));
        Due.refused(full, "digit(-1) when full", Due.ILLEGAL, () -> full.digit(-1));
        Due.refused(full, "digit(1) when full", Due.INDEX, () -> full.digit(1));
    }

    private static void throwsChangeNothing() {
        DecimalTruth x = Due.typed(true, 3, "12345");
        Due.refused(x, "set(infinite)", Due.ILLEGAL, () -> x.set(0x7FF0000000000000L));
        Due.refused(x, "digit(10)", Due.ILLEGAL, () -> x.digit(10));
        Due.refused(x, "clear(false, 1001)", Due.ILLEGAL, () -> x.clear(false, 1001));
        Due.refused(x, "round(-1)", Due.ILLEGAL, () -> x.round(-1));
        Due.refused(x, "places(2001)", Due.ILLEGAL, () -> x.places(2001));
        Due.refused(x, "look(5)", Due.INDEX, () -> x.look(5));
        Due.refused(x, "count(3)", Due.ILLEGAL, () -> x.count(3));
        DecimalTruth beyond = Due.typed(true, 310, "12345");
        Due.refused(beyond, "nearest() beyond", Due.ARITHMETIC, () -> beyond.nearest());
        Due.refused(beyond, "enough() beyond", Due.ARITHMETIC, () -> beyond.enough());
    }

    private static void throwsLeaveZerosInMind() {
        DecimalTruth x = Due.typed(false, 400, "100");
        Due.throwing("set(no number)", Due.ILLEGAL, () -> x.set(-1L));
        Due.throwing("digit(-1)", Due.ILLEGAL, () -> x.digit(-1));
        Due.throwing("clear(true, -1001)", Due.ILLEGAL, () -> x.clear(true, -1001));
        Due.throwing("round(801)", Due.ILLEGAL, () -> x.round(801));
        Due.throwing("places(-1001)", Due.ILLEGAL, () -> x.places(-1001));
        Due.throwing("nearest()", Due.ARITHMETIC, () -> x.nearest());
        Due.throwing("enough()", Due.ARITHMETIC, () -> x.enough());
        Due.same("digit(4) behind two zeros in mind", x.digit(4), 4);
        Due.kept("throws and digit(4)", x, "+0.1004e400");
    }

    private static void throwsLeaveThePoint() {
        DecimalTruth x = Due.typed(true, 7, "00");
        Due.throwing("set(infinite)", Due.ILLEGAL, () -> x.set(0xFFF0000000000000L));
        Due.throwing("clear(false, 1001)", Due.ILLEGAL, () -> x.clear(false, 1001));
        Due.throwing("round(-1)", Due.ILLEGAL, () -> x.round(-1));
        Due.throwing("places(2001)", Due.ILLEGAL, () -> x.places(2001));
        x.digit(6);
        Due.kept("throws and digit(6)", x, "-0.6e5");
    }

    private static DecimalTruth full() {
        DecimalTruth x = Due.set(Double.MIN_VALUE);
        Due.type(x, Due.repeat('3', 800 - x.count(0)));
        return x;
    }
}
