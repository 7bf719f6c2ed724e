import java.math.BigDecimal;
import java.util.Random;

/** Many runs of 512 calls against the model, the same ones each time. */
public final class ModelRunsTest {
    private static final int RUNS = 800;
    /** Every so many calls the whole decimal is looked at, by other objects with the same calls. */
    private static final int CALLS_TILL_A_LOOK = 150;

    private final Random random;
    private final Run x = new Run();
    private final Model model = new Model();
    private final String run;

    private ModelRunsTest(int seed) {
        random = new Random(seed);
        run = "run " + seed;
    }

    public static void main(String[] args) {
        for (int seed = 0; seed < RUNS; seed++) {
            new ModelRunsTest(seed).go();
        }
        Due.end();
    }

    private void go() {
        while (x.callsLeft() > 0) {
            switch (random.nextInt(14)) {
                case 0: set(bits()); break;
                case 1: clear(random.nextBoolean(), near(400, 1000)); break;
                case 2: typeSome(); break;
                case 3: typeBesideAMiddle(); break;
                case 4: typeNinesAndFives(); break;
                case 5: digit(0); break;
                case 6: round(random.nextInt(10) == 0 ? random.nextInt(900) - 50 : random.nextInt(25)); break;
                case 7: places(random.nextInt(3) == 0 ? random.nextInt(3200) - 1100 : nearPlace()); break;
                case 8: nearest(); break;
                case 9: enough(); break;
                case 10: fill(); break;
                case 11: look(random.nextInt(model.digits() + 3) - 1); break;
                case 12: count(random.nextInt(5) - 1); break;
                default: digit(random.nextInt(12) - 1); break;
            }
        }
    }

    private long bits() {
        long bits = random.nextLong();
        switch (random.nextInt(6)) {
            case 0: return bits & 0x800FFFFFFFFFFFFFL;
            case 1: return bits | 0x7FE0000000000000L;
            case 2: return bits & 0xFFF0000000000000L;
            case 3: return Double.doubleToRawLongBits(random.nextInt(100000) / 1000.0);
            default: return bits;
        }
    }

    private int near(int usual, int most) {
        int reach = random.nextInt(5) == 0 ? most + 3 : usual;
        return random.nextInt(2 * reach + 1) - reach;
    }

    private int nearPlace() {
        return random.nextInt(20) - model.place() - 2;
    }

    private void typeSome() {
        int many = random.nextInt(30);
        for (int i = 0; i < many; i++) {
            digit(random.nextInt(3) == 0 ? 0 : random.nextInt(10));
        }
    }

    private void typeBesideAMiddle() {
        long size = bits() & 0x7FEFFFFFFFFFFFFFL;
        BigDecimal middle = Due.middleAbove(Double.longBitsToDouble(size)).stripTrailingZeros();
        String digits = middle.unscaledValue().toString();
        clear(random.nextBoolean(), middle.precision() - middle.scale());
        int many = Math.min(digits.length(), random.nextInt(4) == 0 ? 400 : 15 + random.nextInt(60));
        for (int i = 0; i < many; i++) {
            digit(digits.charAt(i) - '0');
        }
        if (random.nextBoolean()) {
            digit(random.nextInt(10));
        }
        nearest();
        enough();
        nearest();
    }

    private void typeNinesAndFives() {
        int many = random.nextInt(8);
        for (int i = 0; i < many; i++) {
            digit(random.nextBoolean() ? 9 : 5);
        }
        round(random.nextInt(many + 3));
    }

    private void fill() {
        if (random.nextInt(5) != 0) {
            return;
        }
        set(random.nextLong() & 0x801FFFFFFFFFFFFFL);
        int many = 801 - model.digits();
        for (int i = 0; i < many && many < 60; i++) {
            digit(random.nextInt(3) == 0 ? 0 : random.nextInt(10));
        }
        nearest();
    }

    private interface Answer {
        long get();
    }

    private void both(String call, Answer got, Answer want) {
        if (x.callsLeft() == 0) {
            return;
        }
        int number = Run.MOST_CALLS - x.callsLeft() + 1;
        String when = run + ", call " + number + ", " + call;
        Due.same(when, answer(got), answer(want));
        if (number % CALLS_TILL_A_LOOK == 0) {
            Due.kept(when, x, model.text());
        }
    }

    private static String answer(Answer call) {
        try {
            return Long.toString(call.get());
        } catch (RuntimeException e) {
            return "throws." + e.getClass().getSimpleName();
        }
    }

    private void set(long bits) {
        both("set(" + bits + ")", () -> x.set(bits), () -> model.set(bits));
    }

    private void digit(int d) {
        both("digit(" + d + ")", () -> x.digit(d), () -> model.digit(d));
    }

    private void clear(boolean minus, int place) {
        both("clear(" + minus + ", " + place + ")", () -> {
            x.clear(minus, place);
            return 0;
        }, () -> {
            model.clear(minus, place);
            return 0;
        });
    }

    private void round(int n) {
        both("round(" + n + ")", () -> x.round(n), () -> model.round(n));
    }

    private void places(int n) {
        both("places(" + n + ")", () -> x.places(n), () -> model.places(n));
    }

    private void nearest() {
        both("nearest()", x::nearest, model::nearest);
    }

    private void enough() {
        both("enough()", x::enough, model::enough);
    }

    private void look(int k) {
        both("look(" + k + ")", () -> x.look(k), () -> model.look(k));
    }

    private void count(int what) {
        both("count(" + what + ")", () -> x.count(what), () -> model.count(what));
    }
}
