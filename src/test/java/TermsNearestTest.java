import java.math.BigDecimal;

/** Terms, 3: which double is the NEAREST one, and what is BEYOND. */
public final class TermsNearestTest {
    /** As many digits of a middle as leave some calls over. */
    private static final int MOST_TYPED = 500;
    private static final BigDecimal LIMIT =
        BigDecimal.valueOf(2).pow(1024).subtract(BigDecimal.valueOf(2).pow(970));

    public static void main(String[] args) {
        thoseBelowAreAmongThem();
        thoseBelowAreToldApart();
        zeroIsAmongThem();
        ofTwoEquallyNearOnesTheEvenOne();
        aBitMoreOrLessDecides();
        oneMoreOrLessDecides();
        quartersOfAStepAreNoMiddles();
        middlesAreSeenByAUsedObject();
        whereTheStepChangesTheEvenOne();
        itHasTheSign();
        beyondIsFromTheLimitOn();
        whatIsRoundedMayBeBeyond();
        Due.end();
    }

    private static void is(String what, Run x, long want) {
        Due.same(what + ", nearest()", x.nearest(), want);
    }

    private static void is(String what, Run x, double want) {
        is(what, x, Double.doubleToRawLongBits(want));
    }

    private static void thoseBelowAreAmongThem() {
        Due.says("of all (also those below 2 ** -1022, and 0) the nearest one");
        long[] sizes = {
            1, 2, 3, 4, 5, 0x0000000100000000L, 0x0007FFFFFFFFFFFFL, 0x0008000000000000L, 0x000FFFFFFFFFFFFEL,
            0x000FFFFFFFFFFFFFL, 0x0010000000000000L, 0x0010000000000001L
        };
        for (long size : sizes) {
            Run x = Due.set(Double.longBitsToDouble(size));
            is("set(" + size + ")", x, size);
            x.round(17);
            is("set(" + size + "), round(17)", x, size);
            x.enough();
            is("set(" + size + "), enough()", x, size);
        }
    }

    /** Their middles have more digits than there are calls; but the first 500 of them are enough to tell. */
    private static void thoseBelowAreToldApart() {
        Due.says("of all (also those below 2 ** -1022, and 0) the nearest one");
        long[] sizes = {
            0, 1, 2, 3, 0x0008000000000000L, 0x000FFFFFFFFFFFFDL, 0x000FFFFFFFFFFFFEL, 0x000FFFFFFFFFFFFFL,
            0x0010000000000000L
        };
        for (long size : sizes) {
            BigDecimal middle = Due.middleAbove(Double.longBitsToDouble(size));
            int place = middle.precision() - middle.scale();
            String below = middle.unscaledValue().toString().substring(0, MOST_TYPED);
            is("below the middle above " + size, Due.typed(false, place, below), size);
            is("above the middle above " + size, Due.typed(false, place, below + "9999999999"), size + 1);
        }
    }

    private static void zeroIsAmongThem() {
        Due.says("of all (also those below 2 ** -1022, and 0) the nearest one");
        is("set(0)", Due.set(0.0), 0L);
        is("2.47e-324", Due.typed(false, -323, "247"), 0L);
        is("2.48e-324", Due.typed(false, -323, "248"), 1L);
        String least = new BigDecimal(Double.MIN_VALUE).unscaledValue().toString();
        is("just below the least", Due.typed(false, -323, least.substring(0, MOST_TYPED)), 1L);
        is("1e-324", Due.typed(false, -323, "1"), 0L);
        is("9e-325", Due.typed(false, -324, "9"), 0L);
        is("99e-1003", Due.typed(false, -1000, "099"), 0L);
        is("many nines e-324", Due.typed(false, -324, Due.repeat('9', MOST_TYPED)), 0L);
    }

    private static void atMiddle(double d) {
        BigDecimal middle = Due.middleAbove(d);
        long bits = Double.doubleToRawLongBits(d);
        is("the middle above " + d, Due.typed(middle), bits + (bits & 1));
    }

    private static void ofTwoEquallyNearOnesTheEvenOne() {
        Due.says("of two equally near ones that with the even last bit");
        double[] some = {1.0, 1.5, 0.1, 3e-9, 1e-100, 1e-190, 0x1p52, 0x1p53, 1e22, 1e23, 1e200, 1e308};
        for (double d : some) {
            atMiddle(d);
            atMiddle(Math.nextUp(d));
            atMiddle(Math.nextDown(d));
        }
        is("2 ** 53 + 1", Due.typed(false, 16, "9007199254740993"), 0x1p53);
        is("2 ** 53 + 3", Due.typed(false, 16, "9007199254740995"), 0x1p53 + 4);
    }

    private static void aBitMoreOrLessDecides() {
        Due.says("of all (also those below 2 ** -1022, and 0) the nearest one");
        String more = "9007199254740993" + Due.repeat('0', 480) + "1";
        is("2 ** 53 + 1 and a bit", Due.typed(false, 16, more), 0x1p53 + 2);
        String less = "9007199254740994" + Due.repeat('9', 480);
        is("2 ** 53 + 3 less a bit", Due.typed(false, 16, less), 0x1p53 + 2);
        is("10 ** 23 and a bit", Due.typed(false, 24, "1" + Due.repeat('0', 490) + "1"), Math.nextUp(1e23));
        is("10 ** 23", Due.typed(false, 24, "1"), 1e23);
        is("10 ** 23 less a bit", Due.typed(false, 23, Due.repeat('9', 490)), 1e23);
    }

    /** Far behind the middle, before the point. */
    private static void oneMoreOrLessDecides() {
        Due.says("of all (also those below 2 ** -1022, and 0) the nearest one");
        for (double d : new double[] {1e23, 1e40, 1e100, 0x1p200, 1e300, 0x1p1023, Math.nextDown(Double.MAX_VALUE)}) {
            BigDecimal middle = Due.middleAbove(d);
            is("1 more than the middle above " + d, Due.typed(middle.add(BigDecimal.ONE)), Math.nextUp(d));
            is("1 less than the middle above " + d, Due.typed(middle.subtract(BigDecimal.ONE)), d);
        }
    }

    private static void quartersOfAStepAreNoMiddles() {
        Due.says("of two equally near ones that with the even last bit");
        double[] wants = {0, 0, 0, 4, 4, 4, 8, 8, 8, 8, 8, 12, 12, 12, 16, 16};
        for (int i = 0; i < wants.length; i++) {
            BigDecimal size = new BigDecimal(0x1p54).add(BigDecimal.valueOf(i));
            is("2 ** 54 + " + i, Due.typed(size), 0x1p54 + wants[i]);
        }
    }

    /** Whatever another decimal has left behind in the object. */
    private static void middlesAreSeenByAUsedObject() {
        Due.says("of two equally near ones that with the even last bit");
        for (double used : new double[] {0.1, 1e-300, Double.MIN_VALUE, Math.PI, 1e300 / 3, Double.MAX_VALUE}) {
            Run x = Due.set(used);
            is("set(" + used + ")", x, used);
            x.clear(false, 16);
            Due.type(x, "9007199254740993");
            is("set(" + used + "), nearest(), 2 ** 53 + 1", x, 0x1p53);
            x.clear(false, 24);
            x.digit(1);
            is("set(" + used + "), nearest(), 10 ** 23", x, 1e23);
        }
    }

    /** Below a power of two the doubles are twice as near as above it. */
    private static void whereTheStepChangesTheEvenOne() {
        Due.says("of two equally near ones that with the even last bit");
        for (int e = -500; e <= 1023; e += 7) {
            double d = Math.scalb(1.0, e);
            atMiddle(d);
            atMiddle(Math.nextDown(d));
        }
    }

    private static void itHasTheSign() {
        Due.says("with the sign");
        long sign = 0x8000000000000000L;
        is("-0", Due.typed(true, 0, ""), sign);
        is("-1e-400", Due.typed(true, -399, "1"), sign);
        is("-5e-324", Due.typed(true, -323, "5"), sign | 1);
        is("-0.3", Due.typed(true, 0, "3"), -0.3);
        is("-2 ** 53 - 1", Due.typed(true, 16, "9007199254740993"), -0x1p53);
        is("-2 ** 53 - 3", Due.typed(true, 16, "9007199254740995"), -0x1p53 - 4);
        is("the least", Due.set(-Double.MAX_VALUE), -Double.MAX_VALUE);
    }

    private static void isBeyond(String what, Run x) {
        Due.refused(x, what + ", nearest()", Due.ARITHMETIC, () -> x.nearest());
        Due.refused(x, what + ", enough()", Due.ARITHMETIC, () -> x.enough());
    }

    private static void beyondIsFromTheLimitOn() {
        Due.says("BEYOND: the size is 2 ** 1024 - 2 ** 970 or more");
        BigDecimal bit = Due.power(-190);
        isBeyond("the limit", Due.typed(LIMIT));
        isBeyond("the limit below 0", Due.typed(true, 309, LIMIT.toString()));
        isBeyond("the limit and a bit", Due.typed(LIMIT.add(bit)));
        isBeyond("2 ** 1024", Due.typed(BigDecimal.valueOf(2).pow(1024)));
        isBeyond("1e309", Due.typed(true, 310, "1"));
        isBeyond("1e999", Due.typed(false, 1000, "1"));
        isBeyond("many nines e1000", Due.typed(false, 1000, Due.repeat('9', MOST_TYPED)));
        BigDecimal almost = LIMIT.subtract(BigDecimal.ONE);
        is("the limit less 1", Due.typed(almost), Double.MAX_VALUE);
        is("the limit less a bit", Due.typed(LIMIT.subtract(bit)), Double.MAX_VALUE);
        is("below 0 the limit less 1", Due.typed(true, 309, almost.toString()), -Double.MAX_VALUE);
    }

    private static void whatIsRoundedMayBeBeyond() {
        Due.says("BEYOND: the size is 2 ** 1024 - 2 ** 970 or more");
        Run x = Due.set(-Double.MAX_VALUE);
        x.round(17);
        is("the least, round(17)", x, -Double.MAX_VALUE);
        x.round(16);
        isBeyond("the least, round(16)", x);
        x.round(1);
        isBeyond("the least, round(1)", x);
    }
}
