import java.math.BigDecimal;

/** Promise 2: a double is spelled out exactly. */
public final class SetTest {
    public static void main(String[] args) {
        spellsKnownDoubles();
        spellsEdges();
        spellsAllPowersOfTwo();
        keepsTheSign();
        forgetsWhatCame();
        refusesWhatIsNoDouble();
        Due.end();
    }

    private static void spells(double d) {
        DecimalTruth x = new DecimalTruth();
        BigDecimal size = new BigDecimal(d).abs();
        boolean minus = Double.doubleToRawLongBits(d) < 0;
        int digits = size.signum() == 0 ? 0 : size.stripTrailingZeros().precision();
        Due.same("set(" + d + ")", x.set(Double.doubleToRawLongBits(d)), digits);
        Due.kept("set(" + d + ")", x, Due.text(minus, size));
    }

    private static void spellsKnownDoubles() {
        DecimalTruth x = Due.set(0.1);
        Due.kept("set(0.1)", x, "+0.1000000000000000055511151231257827021181583404541015625e0");
        x.set(Double.doubleToRawLongBits(-1500.0));
        Due.kept("set(-1500)", x, "-0.15e4");
        x.set(Double.doubleToRawLongBits(1.0));
        Due.kept("set(1)", x, "+0.1e1");
        x.set(Double.doubleToRawLongBits(0x1p-10));
        Due.kept("set(2 ** -10)", x, "+0.9765625e-3");
    }

    private static void spellsEdges() {
        spells(0.0);
        spells(-0.0);
        spells(Double.MIN_VALUE);
        spells(-Double.MIN_VALUE);
        spells(Double.MIN_NORMAL);
        spells(Math.nextDown(Double.MIN_NORMAL));
        spells(Math.nextDown(2 * Double.MIN_NORMAL));
        spells(Double.MAX_VALUE);
        spells(-Double.MAX_VALUE);
        spells(Math.nextUp(1.0));
        spells(Math.nextDown(1.0));
        spells(1e9);
        spells(999999999.0);
        spells(1e18);
        spells(1e22);
        spells(1e23);
    }

    private static void spellsAllPowersOfTwo() {
        for (int e = -1074; e <= 1023; e++) {
            spells(Math.scalb(1.0, e));
            spells(Math.nextDown(Math.scalb(1.0, e)));
        }
    }

    private static void keepsTheSign() {
        DecimalTruth x = new DecimalTruth();
        x.set(0x8000000000000000L);
        Due.kept("set(-0)", x, "-0.e0");
        x.set(0L);
        Due.kept("set(0)", x, "+0.e0");
    }

    private static void forgetsWhatCame() {
        DecimalTruth x = Due.typed(false, 3, "700");
        x.set(Double.doubleToRawLongBits(0.5));
        Due.same("digit(2) behind 0.5", x.digit(2), 2);
        Due.kept("zeros in mind, set(0.5), digit(2)", x, "+0.52e0");
        x.clear(true, 40);
        x.set(0x8000000000000000L);
        x.digit(2);
        Due.kept("clear(true, 40), set(-0), digit(2)", x, "-0.2e0");
    }

    private static void refusesWhatIsNoDouble() {
        DecimalTruth x = Due.set(-2.5);
        Due.refused(x, "set(infinite)", Due.ILLEGAL, () -> x.set(0x7FF0000000000000L));
        Due.refused(x, "set(-infinite)", Due.ILLEGAL, () -> x.set(0xFFF0000000000000L));
        Due.refused(x, "set(NaN)", Due.ILLEGAL, () -> x.set(0x7FF8000000000000L));
        Due.refused(x, "set(least NaN)", Due.ILLEGAL, () -> x.set(0x7FF0000000000001L));
        Due.refused(x, "set(-1L)", Due.ILLEGAL, () -> x.set(-1L));
        Due.refused(x, "set(Long.MAX_VALUE)", Due.ILLEGAL, () -> x.set(Long.MAX_VALUE));
    }
}
