/** A book of prefixes of two families with numbers: in order, by the longest that covers an address. */
public final class PrefixBook {
    public static final int NONE = -1;

    private static final int MOST_PREFIXES = 1000;
    private static final int NO_NUMBER = -2147483648;
    private static final int SHORT_FAMILY = 4;
    private static final int LONG_FAMILY = 6;
    private static final int SHORT_BITS = 32;
    private static final int LONG_BITS = 128;
    private static final int HALF_BITS = 64;
    private static final long SHORT_END = 1L << SHORT_BITS;
    private static final long SIGN = 1L << 63;

    // The prefixes stand in the document's order at the places 0 to count - 1 of these rows.
    private final int[] families;
    private final long[] uppers;
    private final long[] lowers;
    private final int[] lengths;
    private final int[] numbers;
    private int count;

    private int meantFamily;
    private long meantUpper;
    private long meantLower;

    public PrefixBook() {
        families = new int[MOST_PREFIXES];
        uppers = new long[MOST_PREFIXES];
        lowers = new long[MOST_PREFIXES];
        lengths = new int[MOST_PREFIXES];
        numbers = new int[MOST_PREFIXES];
        count = 0;
        meantFamily = SHORT_FAMILY;
        meantUpper = 0L;
        meantLower = 0L;
    }

    public boolean address(int family, long upper, long lower) {
        if (!isAddress(family, upper, lower)) {
            return false;
        }
        mean(family, upper, lower);
        return true;
    }

    public int put(int length, int number) {
        if (!isPrefix(length)) {
            return NONE;
        }
        int place = countAhead(length);
        if (standsAt(place, length)) {
            numbers[place] = number;
            return 0;
        }
        if (count >= MOST_PREFIXES) {
            return NONE;
        }
        openPlace(place);
        write(place, length, number);
        return 1;
    }

    public int remove(int length) {
        if (!isPrefix(length)) {
            return NONE;
        }
        int place = countAhead(length);
        if (!standsAt(place, length)) {
            return 0;
        }
        closePlace(place);
        return 1;
    }

    public int number(int length) {
        // What is no prefix is never in the book, so it needs no test of its own.
        int place = countAhead(length);
        return standsAt(place, length) ? numbers[place] : NO_NUMBER;
    }

    public int longest() {
        int best = NONE;
        for (int place = 0; place < count; place++) {
            if (coversMeant(place) && lengths[place] > best) {
                best = lengths[place];
            }
        }
        return best;
    }

    public int covering() {
        int covers = 0;
        for (int place = 0; place < count; place++) {
            if (coversMeant(place)) {
                covers++;
            }
        }
        return covers;
    }

    public int ahead(int length) {
        return isLength(length) ? countAhead(length) : NONE;
    }

    public int at(int rank) {
        if (rank < 0 || rank >= count) {
            return NONE;
        }
        mean(families[rank], uppers[rank], lowers[rank]);
        return lengths[rank];
    }

    public int size() {
        return count;
    }

    public long told(int what) {
        switch (what) {
            case 0:
                return meantFamily;
            case 1:
                return meantUpper;
            case 2:
                return meantLower;
            default:
                return 0L;
        }
    }

    private static boolean isAddress(int family, long upper, long lower) {
        if (family == SHORT_FAMILY) {
            return upper == 0L && lower >= 0L && lower < SHORT_END;
        }
        return family == LONG_FAMILY;
    }

    private void mean(int family, long upper, long lower) {
        meantFamily = family;
        meantUpper = upper;
        meantLower = lower;
    }

    private boolean isLength(int length) {
        int most = meantFamily == SHORT_FAMILY ? SHORT_BITS : LONG_BITS;
        return length >= 0 && length <= most;
    }

    private boolean isPrefix(int length) {
        if (!isLength(length)) {
            return false;
        }
        int bits = bitsOfWhole(meantFamily, length);
        return (meantUpper & ~upperMask(bits)) == 0L && (meantLower & ~lowerMask(bits)) == 0L;
    }

    // A short address is the end of a long one, so a length counts from the long one's start for both families.
    private static int bitsOfWhole(int family, int length) {
        return family == SHORT_FAMILY ? LONG_BITS - SHORT_BITS + length : length;
    }

    private static long upperMask(int bits) {
        return firstBits(bits);
    }

    private static long lowerMask(int bits) {
        return firstBits(bits - HALF_BITS);
    }

    // Java takes a shift's distance modulo 64, so the two ends are told apart from the rest.
    private static long firstBits(int bits) {
        if (bits <= 0) {
            return 0L;
        }
        if (bits >= HALF_BITS) {
            return -1L;
        }
        return -1L << (HALF_BITS - bits);
    }

    private boolean coversMeant(int place) {
        if (families[place] != meantFamily) {
            return false;
        }
        int bits = bitsOfWhole(meantFamily, lengths[place]);
        return ((uppers[place] ^ meantUpper) & upperMask(bits)) == 0L
                && ((lowers[place] ^ meantLower) & lowerMask(bits)) == 0L;
    }

    private int countAhead(int length) {
        for (int place = 0; place < count; place++) {
            if (!standsAhead(place, length)) {
                return place;
            }
        }
        return count;
    }

    private boolean standsAhead(int place, int length) {
        if (families[place] != meantFamily) {
            return families[place] < meantFamily;
        }
        if (uppers[place] != meantUpper) {
            return isBelow(uppers[place], meantUpper);
        }
        if (lowers[place] != meantLower) {
            return isBelow(lowers[place], meantLower);
        }
        return lengths[place] < length;
    }

    private static boolean isBelow(long left, long right) {
        return (left ^ SIGN) < (right ^ SIGN);
    }

    private boolean standsAt(int place, int length) {
        return place >= 0 && place < count
                && families[place] == meantFamily
                && uppers[place] == meantUpper
                && lowers[place] == meantLower
                && lengths[place] == length;
    }

    private void openPlace(int place) {
        for (int to = count; to > place; to--) {
            copyPlace(to - 1, to);
        }
        count++;
    }

    private void closePlace(int place) {
        count--;
        for (int to = place; to < count; to++) {
            copyPlace(to + 1, to);
        }
    }

    private void copyPlace(int from, int to) {
        families[to] = families[from];
        uppers[to] = uppers[from];
        lowers[to] = lowers[from];
        lengths[to] = lengths[from];
        numbers[to] = numbers[from];
    }

    private void write(int place, int length, int number) {
        families[place] = meantFamily;
        uppers[place] = meantUpper;
        lowers[place] = meantLower;
        lengths[place] = length;
        numbers[place] = number;
    }
}
