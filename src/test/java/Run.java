import java.util.ArrayList;
import java.util.List;

/**
 * An object under test and the calls that it has had. The document promises nothing behind the 512th
 * call, so no test may ask for more.
 */
final class Run {
    static final int MOST_CALLS = 512;

    private interface Call {
        long on(DecimalTruth x);
    }

    private final DecimalTruth x = new DecimalTruth();
    private final List<Call> calls = new ArrayList<>();

    int set(long bits) {
        return (int) make(o -> o.set(bits));
    }

    int digit(int d) {
        return (int) make(o -> o.digit(d));
    }

    void clear(boolean minus, int place) {
        make(o -> {
            o.clear(minus, place);
            return 0;
        });
    }

    int round(int n) {
        return (int) make(o -> o.round(n));
    }

    int places(int n) {
        return (int) make(o -> o.places(n));
    }

    long nearest() {
        return make(DecimalTruth::nearest);
    }

    int enough() {
        return (int) make(DecimalTruth::enough);
    }

    int look(int k) {
        return (int) make(o -> o.look(k));
    }

    int count(int what) {
        return (int) make(o -> o.count(what));
    }

    int callsLeft() {
        return MOST_CALLS - calls.size();
    }

    /** What the object itself tells of its decimal; each digit takes a call. */
    String seen() {
        StringBuilder out = new StringBuilder(count(2) == 1 ? "-0." : "+0.");
        int length = count(0);
        for (int k = 0; k < length; k++) {
            out.append(look(k));
        }
        return out.append("e").append(count(1)).toString();
    }

    /** The same, told by other objects that have had the same calls: this one keeps those it has left. */
    String kept() {
        Run twin = again();
        StringBuilder out = new StringBuilder(twin.count(2) == 1 ? "-0." : "+0.");
        int length = twin.count(0);
        int place = twin.count(1);
        for (int k = 0; k < length; k++) {
            twin = twin.callsLeft() > 0 ? twin : again();
            out.append(twin.look(k));
        }
        return out.append("e").append(place).toString();
    }

    /** What is kept, and what another digit would make of it: that tells the zeros in mind and the point. */
    String keptAndInMind() {
        Run next = again();
        String thrown = Due.thrownBy(() -> next.digit(7));
        return kept() + ", behind digit(7), which throws " + thrown + ", " + next.kept();
    }

    /** A new object that has had the same calls. */
    Run again() {
        Run other = new Run();
        for (Call call : calls) {
            try {
                other.make(call);
            } catch (RuntimeException e) {
                // It was refused here as it was there, and is one of the 512 all the same.
            }
        }
        return other;
    }

    private long make(Call call) {
        if (callsLeft() == 0) {
            throw new AssertionError("a test asks for more than " + MOST_CALLS + " calls");
        }
        calls.add(call);
        return call.on(x);
    }
}
