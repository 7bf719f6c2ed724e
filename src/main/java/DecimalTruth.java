import java.util.Arrays;

/**
 * What a double is as a decimal, exactly; decimals that are rounded; and the double that is nearest
 * to a decimal.
 */
public final class DecimalTruth {
    private static final int MOST_DIGITS = 800;
    private static final int LOWEST_PLACE = -1000;
    private static final int HIGHEST_PLACE = 1000;
    private static final int FEWEST_BEHIND = -1000;
    private static final int MOST_BEHIND = 2000;

    /** Sizes from 10 ** 309 on are BEYOND; sizes below 10 ** -324 are nearest to 0. */
    private static final int HIGHEST_PLACE_OF_A_DOUBLE = 309;
    private static final int LOWEST_PLACE_OF_A_DOUBLE = -323;

    private static final long SIGN_BIT = 0x8000000000000000L;
    /** From these bits on a size is infinite or no number; also what stands for BEYOND. */
    private static final long INFINITE = 0x7FF0000000000000L;
    private static final int FRACTION_BITS = 52;
    private static final long FRACTION_MASK = (1L << FRACTION_BITS) - 1;
    private static final int LOWEST_POWER = -1074;
    private static final int HIGHEST_TOP_BIT = 1023;

    private static final int WORD_BITS = 32;

    private final Decimal kept = new Decimal();
    private boolean minus;
    /** Zeros that came behind the last digit and wait for another one. */
    private int zerosInMind;
    /** Where the first digit goes that comes to 0. */
    private int point;

    private final Groups groups = new Groups();
    private final Words words = new Words();
    private final Decimal trial = new Decimal();
    private final Decimal low = new Decimal();
    private final Decimal high = new Decimal();

    public DecimalTruth() {
    }

    public int set(long bits) throws IllegalArgumentException {
        long size = bits & ~SIGN_BIT;
        if (size >= INFINITE) {
            throw new IllegalArgumentException("it is infinite or no number");
        }
        minus = bits < 0;
        spell(factorOf(size), powerOf(size), kept);
        forgetWhatCame();
        return kept.length;
    }

    public int digit(int d) throws IllegalArgumentException, IndexOutOfBoundsException {
        if (d < 0 || d > 9) {
            throw new IllegalArgumentException("no digit");
        }
        if (hasNoRoomFor(d)) {
            throw new IndexOutOfBoundsException("too many digits");
        }
        if (d != 0) {
            bringDigit(d);
        } else if (kept.length == 0) {
            point--;
        } else {
            zerosInMind++;
        }
        return kept.length;
    }

    public void clear(boolean minus, int place) throws IllegalArgumentException {
        if (place < LOWEST_PLACE || place > HIGHEST_PLACE) {
            throw new IllegalArgumentException("place is not -1000..1000");
        }
        this.minus = minus;
        kept.beZero();
        forgetWhatCame();
        point = place;
    }

    public int round(int n) throws IllegalArgumentException {
        if (n < 0 || n > MOST_DIGITS) {
            throw new IllegalArgumentException("n is not 0..800");
        }
        roundToDigits(n);
        return kept.length;
    }

    public int places(int n) throws IllegalArgumentException {
        if (n < FEWEST_BEHIND || n > MOST_BEHIND) {
            throw new IllegalArgumentException("n is not -1000..2000");
        }
        kept.cutBehind(kept.place + n);
        forgetWhatCame();
        return kept.length;
    }

    public long nearest() throws ArithmeticException {
        long size = nearestSize();
        if (size >= INFINITE) {
            throw new ArithmeticException("it is beyond");
        }
        return minus ? size | SIGN_BIT : size;
    }

    public int enough() throws ArithmeticException {
        long size = nearestSize();
        if (size >= INFINITE) {
            throw new ArithmeticException("it is beyond");
        }
        int n = size == 0 ? 0 : leastDigitsFor(size);
        roundToDigits(n);
        return n;
    }

    public int look(int k) throws IndexOutOfBoundsException {
        if (k < 0 || k >= kept.length) {
            throw new IndexOutOfBoundsException("there is no such digit");
        }
        return kept.digits[k];
    }

    public int count(int what) throws IllegalArgumentException {
        switch (what) {
            case 0:
                return kept.length;
            case 1:
                return kept.place;
            case 2:
                return minus ? 1 : 0;
            default:
                throw new IllegalArgumentException("what is not 0..2");
        }
    }

    private boolean hasNoRoomFor(int d) {
        if (kept.length == 0) {
            return d == 0 && point < LOWEST_PLACE;
        }
        return kept.length + zerosInMind >= MOST_DIGITS;
    }

    private void bringDigit(int d) {
        if (kept.length == 0) {
            kept.place = point;
        }
        for (int i = 0; i < zerosInMind; i++) {
            kept.append(0);
        }
        zerosInMind = 0;
        kept.append(d);
    }

    private void forgetWhatCame() {
        zerosInMind = 0;
        point = 0;
    }

    private void roundToDigits(int n) {
        if (n == 0) {
            // Cutting before the first digit could round up to one digit, which is more than none.
            kept.beZero();
        } else {
            kept.cutBehind(n);
        }
        forgetWhatCame();
    }

    /** The bits of the NEAREST double without the sign, INFINITE if it is BEYOND. */
    private long nearestSize() {
        if (kept.length == 0 || kept.place < LOWEST_PLACE_OF_A_DOUBLE) {
            return 0;
        }
        if (kept.place > HIGHEST_PLACE_OF_A_DOUBLE) {
            return INFINITE;
        }
        groups.load(kept);
        words.load(groups);
        return words.roundedSize();
    }

    /**
     * More digits may hold less well than fewer: they are nearer, but perhaps on the other side, where
     * the double's reach ends sooner. So they are tried one by one from the fewest.
     */
    private int leastDigitsFor(long size) {
        spellMiddleAbove(size - 1, low);
        spellMiddleAbove(size, high);
        boolean even = (size & 1) == 0;
        int n = 1;
        while (n < kept.length && !holdsWith(n, even)) {
            n++;
        }
        return n;
    }

    /**
     * Whether n digits stay between low and high: rounded down they can only pass low, rounded up only
     * high. The even one of two doubles has their middle too.
     */
    private boolean holdsWith(int n, boolean even) {
        boolean up = kept.goesUpBehind(n);
        trial.beStartOf(kept, n);
        trial.settle(up);
        int inside = up ? high.against(trial) : trial.against(low);
        return even ? inside >= 0 : inside > 0;
    }

    /** The middle of a double and the next one, which is farther by one last bit of the first. */
    private void spellMiddleAbove(long size, Decimal into) {
        spell(2 * factorOf(size) + 1, powerOf(size) - 1, into);
    }

    private void spell(long factor, int power, Decimal into) {
        groups.beProduct(factor, power);
        into.read(groups);
    }

    private static long factorOf(long size) {
        long fraction = size & FRACTION_MASK;
        return size > FRACTION_MASK ? fraction + FRACTION_MASK + 1 : fraction;
    }

    private static int powerOf(long size) {
        int exponent = (int) (size >>> FRACTION_BITS);
        return LOWEST_POWER + Math.max(exponent, 1) - 1;
    }

    /** The size of a decimal, 0.DIGITS * 10 ** place; the first and the last digit are not 0. */
    private static final class Decimal {
        private final int[] digits = new int[MOST_DIGITS];
        private int length;
        private int place;

        void beZero() {
            length = 0;
            place = 0;
        }

        /** The first n digits of another one, which has more; they may end with zeros till settled. */
        void beStartOf(Decimal other, int n) {
            System.arraycopy(other.digits, 0, digits, 0, n);
            length = n;
            place = other.place;
        }

        void append(int d) {
            if (length < MOST_DIGITS) {
                digits[length] = d;
                length++;
            }
        }

        /** Rounds to the first n digits; if n is 0 or less, to the place before them where n would end. */
        void cutBehind(int n) {
            if (n < 0) {
                beZero();
            } else if (n < length) {
                boolean up = goesUpBehind(n);
                length = n;
                settle(up);
            }
        }

        /** Whether the first n digits are to go up when the others, of which there are some, are cut. */
        boolean goesUpBehind(int n) {
            if (digits[n] != 5) {
                return digits[n] > 5;
            }
            boolean halfway = n == length - 1;
            boolean even = n == 0 || digits[n - 1] % 2 == 0;
            return !halfway || !even;
        }

        /** Ends a cut, so that the last digit is not 0. */
        void settle(boolean up) {
            if (up) {
                goUp();
            } else {
                dropZerosAtEnd();
            }
        }

        /** Nines at the end would become zeros, and so fall away. */
        private void goUp() {
            while (length > 0 && digits[length - 1] == 9) {
                length--;
            }
            if (length == 0) {
                digits[0] = 1;
                length = 1;
                place++;
            } else {
                digits[length - 1]++;
            }
        }

        private void dropZerosAtEnd() {
            while (length > 0 && digits[length - 1] == 0) {
                length--;
            }
            if (length == 0) {
                place = 0;
            }
        }

        /** Below 0, 0 or above 0, as this is less than, equal to or more than the other; neither is 0. */
        int against(Decimal other) {
            if (place != other.place) {
                return Integer.compare(place, other.place);
            }
            int both = Math.min(length, other.length);
            for (int i = 0; i < both; i++) {
                if (digits[i] != other.digits[i]) {
                    return Integer.compare(digits[i], other.digits[i]);
                }
            }
            return Integer.compare(length, other.length);
        }

        void read(Groups groups) {
            length = 0;
            place = groups.placeOfFirst();
            for (int i = groups.first; i < groups.end; i++) {
                readGroup(groups.rows[i]);
            }
            dropZerosAtEnd();
        }

        private void readGroup(long group) {
            for (long unit = Groups.HIGHEST_UNIT; unit > 0; unit /= 10) {
                int d = (int) (group / unit % 10);
                if (length == 0 && d == 0) {
                    place--;
                } else {
                    append(d);
                }
            }
        }
    }

    /**
     * A number with digits before and behind a point, nine digits a group. Decimal groups hold every
     * decimal and every double exactly, and multiplying or dividing them by powers of two is all that
     * turns the one into the other.
     */
    private static final class Groups {
        private static final int DIGITS_EACH = 9;
        private static final long BASE = 1000000000L;
        private static final long HIGHEST_UNIT = 100000000L;
        private static final long[] UNITS = {
            100000000L, 10000000L, 1000000L, 100000L, 10000L, 1000L, 100L, 10L, 1L
        };
        /** 315 digits before the point; a double has up to 309. */
        private static final int BEFORE_POINT = 35;
        /** 1125 digits behind it; a middle of two doubles has up to 1075, a decimal up to 323 + 800. */
        private static final int ALL = BEFORE_POINT + 125;

        private final long[] rows = new long[ALL];
        /** Groups before first, and from end on, are 0. */
        private int first;
        private int end;

        int placeOfFirst() {
            return (BEFORE_POINT - first) * DIGITS_EACH;
        }

        boolean hasSomethingBehindPoint() {
            return end > BEFORE_POINT;
        }

        /** factor * 2 ** power; the factor is below 10 ** 18. */
        void beProduct(long factor, int power) {
            Arrays.fill(rows, 0);
            rows[BEFORE_POINT - 2] = factor / BASE;
            rows[BEFORE_POINT - 1] = factor % BASE;
            first = BEFORE_POINT - 2;
            end = BEFORE_POINT;
            for (int left = power; left > 0; left -= WORD_BITS) {
                multiply(0, Math.min(left, WORD_BITS));
            }
            for (int left = -power; left > 0; left -= WORD_BITS) {
                divide(ALL, Math.min(left, WORD_BITS));
            }
        }

        /** The decimal's place is that of a double (who calls has looked), so each digit has a group. */
        void load(Decimal decimal) {
            Arrays.fill(rows, 0);
            int start = BEFORE_POINT * DIGITS_EACH - decimal.place;
            for (int i = 0; i < decimal.length; i++) {
                int at = start + i;
                rows[at / DIGITS_EACH] += decimal.digits[i] * UNITS[at % DIGITS_EACH];
            }
            first = start / DIGITS_EACH;
            end = (start + decimal.length - 1) / DIGITS_EACH + 1;
        }

        /** Multiplies the groups from a group on by 2 ** bits; answers what runs over before them. */
        long multiply(int from, int bits) {
            long over = 0;
            for (int i = end - 1; i >= from && (i >= first || over != 0); i--) {
                long product = (rows[i] << bits) + over;
                rows[i] = product % BASE;
                over = product / BASE;
                first = Math.min(first, i);
            }
            while (end > from && rows[end - 1] == 0) {
                end--;
            }
            return over;
        }

        /** Divides the groups before a limit by 2 ** bits; answers what is left over behind them. */
        long divide(int limit, int bits) {
            long mask = (1L << bits) - 1;
            long left = 0;
            for (int i = first; i < limit && (i < end || left != 0); i++) {
                long sum = left * BASE + rows[i];
                rows[i] = sum >>> bits;
                left = sum & mask;
                end = Math.max(end, i + 1);
            }
            while (first < limit && rows[first] == 0) {
                first++;
            }
            return left;
        }
    }

    /** The leading bits of a number, in words of 32 bits before and behind the point. */
    private static final class Words {
        /** 10 ** 309 is below 2 ** 1056. */
        private static final int BEFORE_POINT = 33;
        /** Half of the least double is 2 ** -1075, and 34 words reach to 2 ** -1088. */
        private static final int ALL = BEFORE_POINT + 34;
        /** Three words hold 64 bits from the first bit that is 1, wherever in its word that stands. */
        private static final int IN_HEAD = 3;

        private final long[] rows = new long[ALL + IN_HEAD];
        private boolean hasMore;

        /** Uses the groups up. */
        void load(Groups groups) {
            Arrays.fill(rows, 0);
            for (int i = BEFORE_POINT - 1; i >= 0; i--) {
                rows[i] = groups.divide(Groups.BEFORE_POINT, WORD_BITS);
            }
            int top = firstThatIsNotZero(BEFORE_POINT);
            for (int i = BEFORE_POINT; i < ALL && i < top + IN_HEAD; i++) {
                rows[i] = groups.multiply(Groups.BEFORE_POINT, WORD_BITS);
                if (rows[i] == 0 && top == i) {
                    top++;
                }
            }
            hasMore = groups.hasSomethingBehindPoint();
        }

        /** The bits of the nearest double; INFINITE if that has no place among them. */
        long roundedSize() {
            int top = firstThatIsNotZero(ALL);
            if (top == ALL) {
                return 0;
            }
            int shift = Long.numberOfLeadingZeros(rows[top]) - WORD_BITS;
            int topBit = (BEFORE_POINT - top) * WORD_BITS - 1 - shift;
            if (topBit > HIGHEST_TOP_BIT) {
                return INFINITE;
            }
            long last = rows[top + 2] << shift;
            long head = rows[top] << (WORD_BITS + shift) | rows[top + 1] << shift | last >>> WORD_BITS;
            boolean more = (int) last != 0 || isMoreFrom(top + IN_HEAD);
            return roundHead(head, more, topBit);
        }

        /** The next double has the next bits, also where its exponent is another: so 1 more is one up. */
        private static long roundHead(long head, boolean more, int topBit) {
            int power = Math.max(topBit - FRACTION_BITS, LOWEST_POWER);
            int bits = topBit - power + 1;
            if (bits < 0) {
                return 0;
            }
            long factor = bits == 0 ? 0 : head >>> (64 - bits);
            long rest = head << bits;
            boolean halfOrMore = rest < 0;
            boolean halfway = halfOrMore && rest << 1 == 0 && !more;
            boolean up = halfway ? (factor & 1) == 1 : halfOrMore;
            return ((long) (power - LOWEST_POWER) << FRACTION_BITS) + factor + (up ? 1 : 0);
        }

        private int firstThatIsNotZero(int limit) {
            int i = 0;
            while (i < limit && rows[i] == 0) {
                i++;
            }
            return i;
        }

        private boolean isMoreFrom(int start) {
            boolean more = hasMore;
            for (int i = start; i < ALL && !more; i++) {
                more = rows[i] != 0;
            }
            return more;
        }
    }
}
