import java.math.BigInteger;
import java.util.TreeMap;

/** Long mixed runs against a model that shares no idea with the class: sorted text of bits in a map. */
public final class ModelTest {
    private static final int RUNS = 1000;
    private static final int CALLS = 512;
    private static final int MOST_OF_A_STEP = 5;
    private static final int[] LENGTHS = {-1, 0, 1, 2, 31, 32, 33, 63, 64, 65, 66, 127, 128, 129,
        Integer.MIN_VALUE, Integer.MAX_VALUE};

    private static final Due due = new Due();

    private final PrefixBook book = new PrefixBook();
    // A key is the family's digit, the bits, and the length in three digits; so texts stand in the document's order.
    private final TreeMap<String, Integer> model = new TreeMap<>();
    private int family = 4;
    private String bits = text(4, 0, 0);
    private long state;
    private int calls = 0;

    private ModelTest(long seed) {
        state = seed;
    }

    public static void main(String[] args) {
        for (int run = 0; run < RUNS; run++) {
            ModelTest test = new ModelTest(run * 7919L + 1);
            while (test.calls + MOST_OF_A_STEP <= CALLS) {
                test.step("run " + run + ", call " + test.calls + ": ");
            }
        }
        due.end();
    }

    private static String text(int family, long upper, long lower) {
        StringBuilder s = new StringBuilder();
        for (int i = 63; i >= 0; i--) {
            s.append((upper >>> i) & 1);
        }
        for (int i = 63; i >= 0; i--) {
            s.append((lower >>> i) & 1);
        }
        return family == 4 ? s.substring(96) : s.toString();
    }

    private int pick(int below) {
        state = state * 6364136223846793005L + 1442695040888963407L;
        return (int) ((state >>> 33) % below);
    }

    private boolean isLength(int length) {
        return length >= 0 && length <= bits.length();
    }

    private boolean isPrefix(int length) {
        return isLength(length) && bits.indexOf('1', length) < 0;
    }

    private String key(int length) {
        return family + bits + String.format("%03d", length);
    }

    private int pickLength() {
        int kind = pick(4);
        if (kind == 0) {
            return LENGTHS[pick(LENGTHS.length)];
        }
        return kind == 1 ? pick(bits.length() + 1) : Math.min(bits.length(), bits.lastIndexOf('1') + 1 + pick(3));
    }

    private void step(String where) {
        switch (pick(12)) {
            case 0, 1, 2 -> address(where);
            case 3, 4, 5 -> put(where, pickLength(), pick(1000) - 500);
            case 6 -> remove(where, pickLength());
            case 7 -> number(where, pickLength());
            case 8 -> covers(where);
            case 9 -> ahead(where, pickLength());
            case 10 -> at(where, pick(model.size() + 3) - 1);
            default -> due.is(where + "size()", book.size(), model.size());
        }
        calls++;
        if (pick(5) == 0) {
            told(where);
        }
    }

    /** Few bits are set, near the halves' ends, so that addresses meet again. */
    private long half() {
        int[] shifts = {0, 1, 31, 32, 62, 63};
        long value = 0;
        for (int i = pick(4); i > 0; i--) {
            value |= 1L << shifts[pick(shifts.length)];
        }
        return value;
    }

    private void address(String where) {
        int asked = pick(10) == 0 ? pick(10) : 4 + 2 * pick(2);
        long upper = asked == 4 && pick(8) != 0 ? 0 : half();
        long lower = asked == 4 && pick(8) != 0 ? half() >>> 32 : half();
        boolean right = asked == 6 || asked == 4 && upper == 0 && lower >>> 32 == 0;
        due.is(where + "address(" + asked + ", " + upper + ", " + lower + ")", book.address(asked, upper, lower), right);
        if (right) {
            family = asked;
            bits = text(asked, upper, lower);
        }
    }

    private void put(String where, int length, int number) {
        long want = PrefixBook.NONE;
        if (isPrefix(length)) {
            want = model.put(key(length), number) == null ? 1 : 0;
        }
        due.is(where + "put(" + length + ", " + number + ")", book.put(length, number), want);
    }

    private void remove(String where, int length) {
        long want = PrefixBook.NONE;
        if (isPrefix(length)) {
            want = model.remove(key(length)) == null ? 0 : 1;
        }
        due.is(where + "remove(" + length + ")", book.remove(length), want);
    }

    private void number(String where, int length) {
        Integer want = isPrefix(length) ? model.get(key(length)) : null;
        due.is(where + "number(" + length + ")", book.number(length), want == null ? Integer.MIN_VALUE : want);
    }

    private void covers(String where) {
        int best = -1;
        int many = 0;
        for (String key : model.keySet()) {
            int length = Integer.parseInt(key.substring(key.length() - 3));
            if ((family + bits).startsWith(key.substring(0, 1 + length)) && key.startsWith("" + family)) {
                best = Math.max(best, length);
                many++;
            }
        }
        due.is(where + "longest()", book.longest(), best);
        due.is(where + "covering()", book.covering(), many);
        calls++;
    }

    private void ahead(String where, int length) {
        long want = isLength(length) ? model.headMap(key(length)).size() : PrefixBook.NONE;
        due.is(where + "ahead(" + length + ")", book.ahead(length), want);
    }

    private void at(String where, int rank) {
        long want = PrefixBook.NONE;
        if (rank >= 0 && rank < model.size()) {
            String key = model.keySet().toArray(new String[0])[rank];
            want = Integer.parseInt(key.substring(key.length() - 3));
            family = key.charAt(0) - '0';
            bits = key.substring(1, key.length() - 3);
        }
        due.is(where + "at(" + rank + ")", book.at(rank), want);
    }

    private void told(String where) {
        BigInteger whole = new BigInteger(bits, 2);
        due.is(where + "told(0)", book.told(0), family);
        due.is(where + "told(1)", book.told(1), whole.shiftRight(64).longValue());
        due.is(where + "told(2)", book.told(2), whole.longValue());
        calls += 3;
    }
}
