import java.math.BigDecimal;
import java.math.BigInteger;

/** What the tests share: counting wrong answers, and ways to bring a decimal into an object. */
final class Due {
    static final String NOTHING = "nothing";
    static final String ILLEGAL = "IllegalArgumentException";
    static final String INDEX = "IndexOutOfBoundsException";
    static final String ARITHMETIC = "ArithmeticException";

    interface Call {
        void run();
    }

    interface Change {
        void on(Run x);
    }

    private static String sentence = "";
    private static int wrong = 0;
    private static int asked = 0;

    private Due() {
    }

    /** The document's words that the answers from here on are due by; a wrong one is printed with them. */
    static void says(String words) {
        sentence = words;
    }

    static void same(String call, long got, long want) {
        same(call, Long.toString(got), Long.toString(want));
    }

    static void same(String call, String got, String want) {
        asked++;
        if (!got.equals(want)) {
            wrong++;
            System.out.println(call + " answered " + got + ", due is " + want + " (" + sentence + ")");
        }
    }

    /** The exact class that a call throws, for a subclass is not what the document says. */
    static String thrownBy(Call call) {
        try {
            call.run();
            return NOTHING;
        } catch (RuntimeException e) {
            return e.getClass().getSimpleName();
        }
    }

    static void throwing(String what, String want, Call call) {
        same(what + " throws", thrownBy(call), want);
    }

    /** Like throwing, and the object is afterwards as it was. */
    static void refused(Run x, String what, String want, Call call) {
        String before = x.keptAndInMind();
        throwing(what, want, call);
        same("what is kept after " + what, x.keptAndInMind(), before);
    }

    static String text(boolean minus, BigDecimal size) {
        String sign = minus ? "-" : "+";
        if (size.signum() == 0) {
            return sign + "0.e0";
        }
        BigDecimal plain = size.stripTrailingZeros();
        return sign + "0." + plain.unscaledValue() + "e" + (plain.precision() - plain.scale());
    }

    static void kept(String when, Run x, String want) {
        same("what is kept after " + when, x.kept(), want);
    }

    /** A call that rounds answered how many digits there are now, and this is kept. */
    static void rounded(String call, Run x, int got, String want) {
        same(call, got, want.indexOf('e') - "+0.".length());
        kept(call, x, want);
    }

    static void type(Run x, String digits) {
        for (int i = 0; i < digits.length(); i++) {
            x.digit(digits.charAt(i) - '0');
        }
    }

    static Run typed(boolean minus, int place, String digits) {
        Run x = new Run();
        x.clear(minus, place);
        type(x, digits);
        return x;
    }

    /** An object that keeps this size; more digits than calls are left for are not asked for here. */
    static Run typed(BigDecimal size) {
        BigDecimal plain = size.stripTrailingZeros();
        return typed(false, plain.precision() - plain.scale(), plain.unscaledValue().toString());
    }

    static Run set(double d) {
        Run x = new Run();
        x.set(Double.doubleToRawLongBits(d));
        return x;
    }

    /** The double with the most digits, 767. */
    static Run longest() {
        return set(Math.nextDown(2 * Double.MIN_NORMAL));
    }

    static Run changed(Run x, Change by) {
        by.on(x);
        return x;
    }

    /** The middle of a double of 0 or more and the next one, also of the largest one and 2 ** 1024. */
    static BigDecimal middleAbove(double d) {
        return new BigDecimal(d).add(new BigDecimal(Math.ulp(d)).divide(BigDecimal.valueOf(2)));
    }

    static BigDecimal power(int ten) {
        return new BigDecimal(BigInteger.ONE, -ten);
    }

    static String repeat(char c, int times) {
        return String.valueOf(c).repeat(times);
    }

    static void end() {
        System.out.println(asked + " answers looked at, " + wrong + " wrong");
        if (wrong != 0 || asked == 0) {
            System.exit(1);
        }
    }
}
