import java.math.BigInteger;
import java.util.TreeMap;

/**
 * Runs of 512 mixed calls on one object, each answer held against a model that shares no idea with the class: texts
 * of bits, sorted by a map.
 */
public final class ModelTest {
    private static final int RUNS_OF_A_KIND = 250;
    private static final int CALLS = 512;
    private static final int SEEN_AT_LEAST = 500;
    private static final int LEAST = Integer.MIN_VALUE;
    private static final int GREATEST = Integer.MAX_VALUE;
    private static final int[] LENGTHS = {-1, 0, 1, 2, 31, 32, 33, 63, 64, 65, 66, 127, 128, 129, LEAST, GREATEST};
    private static final int[] NUMBERS = {LEAST, LEAST + 1, -1, 0, 1, GREATEST};
    private static final long[] HALVES = {-1L, Long.MIN_VALUE, Long.MAX_VALUE, 0xFFFFFFFFL, 1L << 32};
    private static final int[] OTHERS = {-1, 3, 4, 6, 256, LEAST, GREATEST};

    // A letter is a call: a(d)dress, (p)ut, (r)emove, (n)umber, (l)ongest, (c)overing, a(h)ead, (a)t, (s)ize, (t)old.
    private static final String[] KINDS = {
        "dddppprnnlchast", "ddddpppppppplcha", "ddprrraaaannlchst", "pppprrrnlchastttd"};
    // Each way in which the document lets a call end; a run that met none of them would hold nothing against it.
    private static final String[] WAYS = {"address taken", "address refused", "put new", "put there", "put refused",
        "remove there", "remove not there", "remove refused", "number there", "number not there", "number none",
        "longest NONE", "longest 0", "longest more", "covering 0", "covering 1", "covering more", "ahead none",
        "ahead some", "ahead all", "ahead refused", "at first", "at last", "at between", "at refused", "size 0",
        "size more", "told 0", "told 1", "told 2", "told others"};

    private static final Due due = new Due();
    private static final TreeMap<String, Integer> seen = new TreeMap<>();

    private final PrefixBook book = new PrefixBook();
    // A key is the family's digit, the bits, and the length in three digits; so texts stand in the document's order.
    private final TreeMap<String, Integer> model = new TreeMap<>();
    private int family = 4;
    private String bits = text(4, 0, 0);
    private long state;
    private String where;

    private ModelTest(long seed) {
        state = seed;
    }

    public static void main(String[] args) {
        for (int kind = 0; kind < KINDS.length; kind++) {
            for (int run = 0; run < RUNS_OF_A_KIND; run++) {
                new ModelTest(run * 7919L + kind).run(KINDS[kind], "kind " + kind + ", run " + run);
            }
        }
        for (String way : WAYS) {
            due.is(way + " was met " + seen.getOrDefault(way, 0) + " times: often enough",
                    seen.getOrDefault(way, 0) >= SEEN_AT_LEAST, true);
        }
        due.is("ways that were met", seen.size(), WAYS.length);
        due.end();
    }

    private void run(String letters, String name) {
        for (int call = 1; call <= CALLS; call++) {
            where = name + ", call " + call + ": ";
            step(letters.charAt(pick(letters.length())));
        }
    }

    private void step(char letter) {
        switch (letter) {
            case 'd' -> address();
            case 'p' -> put(pickLength(), pickNumber());
            case 'r' -> remove(pickLength());
            case 'n' -> number(pickLength());
            case 'l' -> longest();
            case 'c' -> covering();
            case 'h' -> ahead(pickLength());
            case 'a' -> at(pick(model.size() + 3) - 1);
            case 's' -> size();
            default -> told(pick(4));
        }
    }

    private void answer(String call, long got, long want, String way) {
        due.is(where + call, got, want);
        seen.merge(call.substring(0, call.indexOf('(')) + " " + way, 1, Integer::sum);
    }

    private static String text(int family, long upper, long lower) {
        StringBuilder s = new StringBuilder();
        for (int i = 63; i >= 0; i--) {
            s.append((upper >>> i) & 1);
        }
        for (int i = 63; i >= 0; i--) {
            s.append((lower >>> i) & 1);
        }
        return family == 4 ? s.substring(96) : s.toString();
    }

    private int pick(int below) {
        state = state * 6364136223846793005L + 1442695040888963407L;
        return (int) ((state >>> 33) % below);
    }

    private boolean isLength(int length) {
        return length >= 0 && length <= bits.length();
    }

    private boolean isPrefix(int length) {
        return isLength(length) && bits.indexOf('1', length) < 0;
    }

    private String key(int length) {
        return family + bits + String.format("%03d", length);
    }

    private static int lengthOf(String key) {
        return Integer.parseInt(key.substring(key.length() - 3));
    }

    private int pickLength() {
        int kind = pick(4);
        if (kind == 0) {
            return LENGTHS[pick(LENGTHS.length)];
        }
        return kind == 1 ? pick(bits.length() + 1) : Math.min(bits.length(), bits.lastIndexOf('1') + 1 + pick(3));
    }

    private int pickNumber() {
        return pick(8) == 0 ? NUMBERS[pick(NUMBERS.length)] : pick(1000) - 500;
    }

    /** Few bits are set, near the halves' ends, so that addresses meet again. */
    private long pickHalf() {
        if (pick(8) == 0) {
            return HALVES[pick(HALVES.length)];
        }
        int[] shifts = {0, 1, 31, 32, 62, 63};
        long value = 0;
        for (int i = pick(4); i > 0; i--) {
            value |= 1L << shifts[pick(shifts.length)];
        }
        return value;
    }

    private void address() {
        if (pick(3) == 0) {
            // Next to the one that is meant, at any place: so that all lengths come to stand at the edge of a prefix.
            BigInteger near = new BigInteger(bits, 2).flipBit(pick(bits.length()));
            tell(family, near.shiftRight(64).longValue(), near.longValue());
            return;
        }
        int asked = pick(10) == 0 ? pick(10) : 4 + 2 * pick(2);
        long upper = asked == 4 && pick(8) != 0 ? 0 : pickHalf();
        long lower = asked == 4 && pick(4) != 0 ? pickHalf() >>> 32 : pickHalf();
        tell(asked, upper, lower);
    }

    private void tell(int asked, long upper, long lower) {
        boolean right = asked == 6 || asked == 4 && upper == 0 && lower >>> 32 == 0;
        if (right) {
            family = asked;
            bits = text(asked, upper, lower);
        }
        answer("address(" + asked + ", " + upper + ", " + lower + ")", book.address(asked, upper, lower) ? 1 : 0,
                right ? 1 : 0, right ? "taken" : "refused");
    }

    private void put(int length, int number) {
        long want = PrefixBook.NONE;
        if (isPrefix(length)) {
            want = model.put(key(length), number) == null ? 1 : 0;
        }
        answer("put(" + length + ", " + number + ")", book.put(length, number), want,
                want == 1 ? "new" : want == 0 ? "there" : "refused");
    }

    private void remove(int length) {
        long want = PrefixBook.NONE;
        if (isPrefix(length)) {
            want = model.remove(key(length)) == null ? 0 : 1;
        }
        answer("remove(" + length + ")", book.remove(length), want,
                want == 1 ? "there" : want == 0 ? "not there" : "refused");
    }

    private void number(int length) {
        Integer want = isPrefix(length) ? model.get(key(length)) : null;
        answer("number(" + length + ")", book.number(length), want == null ? LEAST : want,
                want != null ? "there" : isPrefix(length) ? "not there" : "none");
    }

    private boolean covers(String key) {
        return key.charAt(0) - '0' == family && bits.startsWith(key.substring(1, 1 + lengthOf(key)));
    }

    private void longest() {
        int best = PrefixBook.NONE;
        for (String key : model.keySet()) {
            if (covers(key)) {
                best = Math.max(best, lengthOf(key));
            }
        }
        answer("longest()", book.longest(), best, best < 0 ? "NONE" : best == 0 ? "0" : "more");
    }

    private void covering() {
        int many = 0;
        for (String key : model.keySet()) {
            if (covers(key)) {
                many++;
            }
        }
        answer("covering()", book.covering(), many, many < 2 ? "" + many : "more");
    }

    private void ahead(int length) {
        if (!isLength(length)) {
            answer("ahead(" + length + ")", book.ahead(length), PrefixBook.NONE, "refused");
            return;
        }
        int many = model.headMap(key(length)).size();
        answer("ahead(" + length + ")", book.ahead(length), many,
                many == 0 ? "none" : many == model.size() ? "all" : "some");
    }

    private void at(int rank) {
        if (rank < 0 || rank >= model.size()) {
            answer("at(" + rank + ")", book.at(rank), PrefixBook.NONE, "refused");
            return;
        }
        String key = model.keySet().toArray(new String[0])[rank];
        family = key.charAt(0) - '0';
        bits = key.substring(1, key.length() - 3);
        answer("at(" + rank + ")", book.at(rank), lengthOf(key),
                rank == 0 ? "first" : rank == model.size() - 1 ? "last" : "between");
    }

    private void size() {
        answer("size()", book.size(), model.size(), model.isEmpty() ? "0" : "more");
    }

    private void told(int what) {
        BigInteger whole = new BigInteger(bits, 2);
        switch (what) {
            case 0 -> answer("told(0)", book.told(0), family, "0");
            case 1 -> answer("told(1)", book.told(1), whole.shiftRight(64).longValue(), "1");
            case 2 -> answer("told(2)", book.told(2), whole.longValue(), "2");
            default -> {
                int other = OTHERS[pick(OTHERS.length)];
                answer("told(" + other + ")", book.told(other), 0, "others");
            }
        }
    }
}
