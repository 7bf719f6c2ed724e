import java.math.BigDecimal;

/** Promise 2: a double is spelled out exactly. */
public final class SetTest {
    public static void main(String[] args) {
        spellsKnownDoubles();
        spellsEdges();
        spellsAllPowersOfTwo();
        spellsTheLongest();
        keepsTheSign();
        forgetsWhatCame();
        refusesWhatIsNoDouble();
        Due.end();
    }

    private static void spells(double d) {
        Run x = new Run();
        BigDecimal size = new BigDecimal(d).abs();
        boolean minus = Double.doubleToRawLongBits(d) < 0;
        int digits = size.signum() == 0 ? 0 : size.stripTrailingZeros().precision();
        Due.same("set(" + d + ")", x.set(Double.doubleToRawLongBits(d)), digits);
        Due.kept("set(" + d + ")", x, Due.text(minus, size));
    }

    private static void spellsKnownDoubles() {
        Due.says("The DECIMAL is what a DOUBLE is, exactly: how many DIGITS.");
        Run x = Due.set(0.1);
        Due.kept("set(0.1)", x, "+0.1000000000000000055511151231257827021181583404541015625e0");
        x.set(Double.doubleToRawLongBits(-1500.0));
        Due.kept("set(-1500)", x, "-0.15e4");
        x.set(Double.doubleToRawLongBits(1.0));
        Due.kept("set(1)", x, "+0.1e1");
        x.set(Double.doubleToRawLongBits(0x1p-10));
        Due.kept("set(2 ** -10)", x, "+0.9765625e-3");
    }

    private static void spellsEdges() {
        spells(0.0);
        spells(-0.0);
        spells(Double.MIN_VALUE);
        spells(-Double.MIN_VALUE);
        spells(Double.MIN_NORMAL);
        spells(Math.nextDown(Double.MIN_NORMAL));
        spells(Math.nextDown(2 * Double.MIN_NORMAL));
        spells(Double.MAX_VALUE);
        spells(-Double.MAX_VALUE);
        spells(Math.nextUp(1.0));
        spells(Math.nextDown(1.0));
        spells(1e9);
        spells(999999999.0);
        spells(1e18);
        spells(1e22);
        spells(1e23);
    }

    private static void spellsAllPowersOfTwo() {
        for (int e = -1074; e <= 1023; e++) {
            spells(Math.scalb(1.0, e));
            spells(Math.nextDown(Math.scalb(1.0, e)));
        }
    }

    /** Few as well as many digits follow on a full row. */
    private static void spellsTheLongest() {
        Run x = Due.longest();
        Due.type(x, Due.repeat('8', 33));
        Due.same("set(4.0) on 800 digits", x.set(Double.doubleToRawLongBits(4.0)), 1);
        Due.kept("800 digits, set(4.0)", x, "+0.4e1");
        Due.same("set(the longest)", x.set(0x001FFFFFFFFFFFFFL), 767);
        Due.kept("set(the longest)", x, Due.longest().kept());
        Due.same("set(0)", x.set(0L), 0);
        Due.kept("set(0)", x, "+0.e0");
    }

    private static void keepsTheSign() {
        Due.says("A DOUBLE ...: sign, and size");
        Run x = new Run();
        x.set(0x8000000000000000L);
        Due.kept("set(-0)", x, "-0.e0");
        x.set(0L);
        Due.kept("set(0)", x, "+0.e0");
    }

    private static void forgetsWhatCame() {
        Due.says("or it is set, ROUNDED, cleared: then they are gone");
        Run x = Due.typed(false, 3, "700");
        x.set(Double.doubleToRawLongBits(0.5));
        Due.same("digit(2) behind 0.5", x.digit(2), 2);
        Due.kept("zeros in mind, set(0.5), digit(2)", x, "+0.52e0");
        x.clear(true, 40);
        x.set(0x8000000000000000L);
        x.digit(2);
        Due.kept("clear(true, 40), set(-0), digit(2)", x, "-0.2e0");
    }

    private static void refusesWhatIsNoDouble() {
        Due.says("IllegalArgumentException: it is infinite, or no number.");
        long[] sizes = {
            0x7FF0000000000000L, 0x7FF0000000000001L, 0x7FF7FFFFFFFFFFFFL, 0x7FF8000000000000L,
            0x7FF8000000000001L, 0x7FFFFFFFFFFFFFFFL
        };
        Run x = Due.set(-2.5);
        Run zerosInMind = Due.typed(false, 4, "7000");
        for (long size : sizes) {
            for (long bits : new long[] {size, size | 0x8000000000000000L}) {
                String call = "set(0x" + Long.toHexString(bits) + ")";
                Due.refused(x, "-2.5, " + call, Due.ILLEGAL, () -> x.set(bits));
                Due.refused(zerosInMind, "7000, " + call, Due.ILLEGAL, () -> zerosInMind.set(bits));
            }
        }
        Due.same("set(largest) after all these", x.set(0x7FEFFFFFFFFFFFFFL), 309);
    }
}
