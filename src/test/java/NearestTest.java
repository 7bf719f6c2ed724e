import java.math.BigDecimal;

/** Promise 7: the bits of the nearest double. */
public final class NearestTest {
    private static final double[] EDGES = {
        Double.MIN_VALUE, 2 * Double.MIN_VALUE, Math.nextDown(Double.MIN_NORMAL), Double.MIN_NORMAL,
        Math.nextUp(Double.MIN_NORMAL), 1e-300, 1e-23, 0.1, 0.5, Math.nextDown(1.0), 1.0,
        Math.nextUp(1.0), 2.0, 1e15, Math.nextDown(0x1p32), 0x1p32, 0x1p53, Math.nextDown(0x1p64),
        0x1p64, 1e22, 1e23, Math.nextUp(1e23), 1e100, 1e300, 0x1p1023, Math.nextDown(Double.MAX_VALUE)
    };

    public static void main(String[] args) {
        findsKnownOnes();
        givesADoubleBack();
        decidesAtTheMiddle();
        decidesAroundZero();
        knowsWhatIsBeyond();
        answersForEveryPlace();
        answersForTheLongestOnes();
        keepsTheSign();
        changesNothing();
        Due.end();
    }

    private static void is(String call, Run x, double want) {
        Due.same(call + ", nearest()", x.nearest(), Double.doubleToRawLongBits(want));
    }

    private static void findsKnownOnes() {
        Due.says("The bits of the NEAREST double.");
        is("0.1", Due.typed(false, 0, "1"), 0.1);
        is("-1e22", Due.typed(true, 23, "1"), -1e22);
        is("123456789.125", Due.typed(false, 9, "123456789125"), 123456789.125);
        is("2 ** 53 + 1", Due.typed(false, 16, "9007199254740993"), 0x1p53);
        is("2 ** 53 + 3", Due.typed(false, 16, "9007199254740995"), 0x1p53 + 4);
        is("2 ** 53 + 1 and a bit", Due.typed(false, 16, "90071992547409930000000001"), 0x1p53 + 2);
        is("2.2250738585072011e-308", Due.typed(false, -307, "22250738585072011"), 2.2250738585072011e-308);
    }

    private static void givesADoubleBack() {
        for (int e = -1074; e <= 1023; e++) {
            double d = Math.scalb(1.0, e);
            is("set(" + d + ")", Due.set(d), d);
            is("set(-" + d + ")", Due.set(-d), -d);
            is("set below " + d, Due.set(Math.nextDown(d)), Math.nextDown(d));
        }
        is("set(largest)", Due.set(Double.MAX_VALUE), Double.MAX_VALUE);
    }

    /** The middle goes to the even one, and the least that fits into the calls on either side decides. */
    private static void decidesAtTheMiddle() {
        for (double d : EDGES) {
            BigDecimal middle = Due.middleAbove(d).stripTrailingZeros();
            double next = Math.nextUp(d);
            boolean even = (Double.doubleToRawLongBits(d) & 1) == 0;
            if (middle.precision() > 480) {
                continue;
            }
            BigDecimal bit = Due.power(-Math.max(middle.scale(), 0) - 8);
            is("the middle above " + d, Due.typed(middle), even ? d : next);
            is("less than the middle above " + d, Due.typed(middle.subtract(bit)), d);
            is("more than the middle above " + d, Due.typed(middle.add(bit)), next);
        }
    }

    /** The middle of 0 and the least double has 752 digits: more than can be typed, so only around it. */
    private static void decidesAroundZero() {
        String middle = Due.middleAbove(0.0).unscaledValue().toString().substring(0, 400);
        is("just below half of the least", Due.typed(false, -323, middle), 0.0);
        is("just above half of the least", Due.typed(false, -323, middle + "9"), Double.MIN_VALUE);
        is("9e-325", Due.typed(false, -324, Due.repeat('9', 30)), 0.0);
        is("1e-324", Due.typed(false, -323, "1"), 0.0);
        is("3e-324", Due.typed(true, -323, "3"), -Double.MIN_VALUE);
        is("1e-1001", Due.typed(true, -1000, "1"), -0.0);
    }

    private static void knowsWhatIsBeyond() {
        Due.says("ArithmeticException: it is BEYOND.");
        BigDecimal limit = Due.middleAbove(Double.MAX_VALUE);
        Run at = Due.typed(limit);
        Due.refused(at, "2 ** 1024 - 2 ** 970, nearest()", Due.ARITHMETIC, () -> at.nearest());
        is("one less", Due.typed(limit.subtract(BigDecimal.ONE)), Double.MAX_VALUE);
        is("a bit less", Due.typed(limit.subtract(Due.power(-100))), Double.MAX_VALUE);
        Run more = Due.typed(limit.add(Due.power(-100)));
        Due.refused(more, "a bit more, nearest()", Due.ARITHMETIC, () -> more.nearest());
        for (int place = 309; place <= 1000; place++) {
            Run x = Due.typed(true, place, "2");
            Due.throwing("2e" + (place - 1) + ", nearest()", Due.ARITHMETIC, () -> x.nearest());
            Run y = Due.typed(false, place, "99");
            Due.throwing("99e" + (place - 2) + ", nearest()", Due.ARITHMETIC, () -> y.nearest());
        }
    }

    private static void answersForEveryPlace() {
        Due.says("The bits of the NEAREST double.");
        String[] all = {"1", "9", "17", "49", "123456789012345678901234567890", Due.repeat('9', 60)};
        for (int place = -1000; place <= 308; place++) {
            for (String digits : all) {
                double want = Double.parseDouble("0." + digits + "e" + place);
                is("0." + digits + "e" + place, Due.typed(false, place, digits), want);
            }
        }
    }

    private static void answersForTheLongestOnes() {
        for (double d : EDGES) {
            Run x = Due.set(d);
            Due.type(x, Due.repeat('7', Math.min(400, 800 - x.count(0))));
            is(d + " and sevens", x, Double.parseDouble(x.kept()));
        }
        for (int place : new int[] {-1000, -999, -700, -330, -325, -324}) {
            is("many nines e" + place, Due.typed(true, place, Due.repeat('9', 500)), -0.0);
        }
        Run lowest = Due.typed(false, -1000, "0" + Due.repeat('9', 500));
        is("many nines e-1001", lowest, 0.0);
        Run highest = Due.typed(false, 1000, Due.repeat('9', 500));
        Due.throwing("many nines e1000, nearest()", Due.ARITHMETIC, () -> highest.nearest());
    }

    private static void keepsTheSign() {
        is("-0.3", Due.typed(true, 0, "3"), -0.3);
        is("-0", Due.typed(true, 0, ""), -0.0);
        Run x = Due.set(-0.4);
        x.places(0);
        is("-0.4, places(0)", x, -0.0);
    }

    private static void changesNothing() {
        Run x = Due.typed(true, 5, "12300");
        is("12300", x, -12300.0);
        Due.kept("nearest()", x, "-0.123e5");
        x.digit(4);
        Due.kept("nearest(), digit(4)", x, "-0.123004e5");
        is("12300.4", x, -12300.4);
        is("12300.4 again", x, -12300.4);
        Run zero = Due.typed(false, 5, "00");
        is("0", zero, 0.0);
        zero.digit(4);
        Due.kept("zeros to 0, nearest(), digit(4)", zero, "+0.4e3");
    }
}
