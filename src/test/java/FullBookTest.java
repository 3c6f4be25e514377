/**
 * "A book has at most 1000 prefixes", and "so is a new prefix when there are 1000".
 * An object of 512 calls never has that many, so all but the last of these go past what the document promises; they
 * hold the limit that its terms name, and that no call fails at the rows' ends.
 */
public final class FullBookTest {
    private static final int NONE = PrefixBook.NONE;
    private static final int LEAST = Integer.MIN_VALUE;
    private static final int MOST = 1000;

    private static final Due due = new Due();

    public static void main(String[] args) {
        putUpToTheLimit();
        putOfANewOneWhenFull();
        putOfOneThatIsThereWhenFull();
        putOfWhatIsNoPrefixWhenFull();
        removeWhenFull();
        numberWhenFull();
        longestAndCoveringWhenFull();
        aheadWhenFull();
        atWhenFull();
        addressWhenFull();
        emptiedAndFilledAgain();
        lastPromisedCall();
        due.end();
    }

    // The addresses 1, 3, 5 .. of family 6: room is left ahead of each, between them and behind them.
    private static PrefixBook filled(int many) {
        PrefixBook x = new PrefixBook();
        for (int i = 0; i < many; i++) {
            int mixed = (int) (i * 7919L % many);
            x.address(6, 0, 2L * mixed + 1);
            x.put(128, mixed);
        }
        return x;
    }

    private static void putUpToTheLimit() {
        PrefixBook x = new PrefixBook();
        for (int i = 0; i < MOST; i++) {
            x.address(6, 0, i);
            due.is("3: new prefix " + (i + 1), x.put(128, i), 1);
            due.is("10: size", x.size(), i + 1);
        }
        x.address(6, 0, MOST);
        due.changesNothing("3: new prefix 1001", x, b -> b.put(128, 5), NONE);
        due.is("10: size at the limit", x.size(), MOST);
    }

    private static void putOfANewOneWhenFull() {
        long[][] fresh = {{4, 0, 0, 0}, {4, 0, 0xFFFFFFFFL, 32}, {6, 0, 0, 0}, {6, 0, 0, 128}, {6, 0, 2, 127},
            {6, 0, 2, 128}, {6, 0, 1000, 128}, {6, 0, 1998, 128}, {6, 0, 2000, 128}, {6, 1, 0, 64}, {6, -1, -1, 128}};
        PrefixBook x = filled(MOST);
        for (long[] one : fresh) {
            x.address((int) one[0], one[1], one[2]);
            due.changesNothing("3: full, new of " + Books.meant(x), x, b -> b.put((int) one[3], 5), NONE);
            due.is("5: full, it is not there", x.number((int) one[3]), LEAST);
            due.is("4: full, it is not there", x.remove((int) one[3]), 0);
        }
        PrefixBook y = filled(MOST - 1);
        for (long[] one : fresh) {
            y.address((int) one[0], one[1], one[2]);
            due.is("3: one less, new of " + Books.meant(y), y.put((int) one[3], 5), 1);
            due.is("10: size", y.size(), MOST);
            due.is("4: it goes again", y.remove((int) one[3]), 1);
        }
    }

    private static void putOfOneThatIsThereWhenFull() {
        PrefixBook x = filled(MOST);
        for (int i : new int[] {0, 1, 500, MOST - 2, MOST - 1}) {
            x.address(6, 0, 2L * i + 1);
            due.is("5: full, number " + i, x.number(128), i);
            due.is("3: full, there " + i, x.put(128, -i - 7), 0);
            due.is("5: full, new number " + i, x.number(128), -i - 7);
            due.is("10: full, size", x.size(), MOST);
        }
    }

    private static void putOfWhatIsNoPrefixWhenFull() {
        PrefixBook x = filled(MOST);
        for (int length : new int[] {-1, 0, 127, 129, LEAST, Integer.MAX_VALUE}) {
            due.changesNothing("3: full, no prefix of " + length, x, b -> b.put(length, 5), NONE);
        }
    }

    private static void removeWhenFull() {
        for (int i : new int[] {0, 1, 500, MOST - 2, MOST - 1}) {
            PrefixBook x = filled(MOST);
            x.address(6, 0, 2L * i);
            due.changesNothing("4: full, not there", x, b -> b.remove(128), 0);
            x.address(6, 0, 2L * i + 1);
            due.changesNothing("4: full, no prefix", x, b -> b.remove(127), NONE);
            due.is("4: full, there " + i, x.remove(128), 1);
            due.is("10: one less", x.size(), MOST - 1);
            due.is("4: it is gone", x.remove(128), 0);
            due.is("9: no last rank", x.at(MOST - 1), NONE);
            x.address(4, 0, 0);
            due.is("3: a new one has room", x.put(0, 9), 1);
            due.changesNothing("3: a second has none", x, b -> b.put(1, 9), NONE);
        }
    }

    private static void numberWhenFull() {
        PrefixBook x = filled(MOST);
        for (int i = 0; i < MOST; i++) {
            x.address(6, 0, 2L * i + 1);
            due.is("5: full, number " + i, x.number(128), i);
            x.address(6, 0, 2L * i + 2);
            due.is("5: full, not there " + i, x.number(128), LEAST);
        }
    }

    private static void longestAndCoveringWhenFull() {
        PrefixBook x = filled(MOST);
        for (int i : new int[] {0, 500, MOST - 1}) {
            x.address(6, 0, 2L * i + 1);
            due.is("6: full, covered", x.longest(), 128);
            due.is("7: full, covered", x.covering(), 1);
            x.address(6, 0, 2L * i + 2);
            due.is("6: full, not covered", x.longest(), NONE);
            due.is("7: full, not covered", x.covering(), 0);
        }
    }

    private static void aheadWhenFull() {
        PrefixBook x = filled(MOST);
        for (int i = 0; i < MOST; i++) {
            x.address(6, 0, 2L * i + 1);
            due.is("8: full, itself not counted", x.ahead(128), i);
        }
        x.address(6, -1, -1);
        due.is("8: full, all stand ahead", x.ahead(0), MOST);
        x.address(4, 0, 0xFFFFFFFFL);
        due.is("8: full, none stands ahead", x.ahead(32), 0);
    }

    private static void atWhenFull() {
        PrefixBook x = filled(MOST);
        for (int i = 0; i < MOST; i++) {
            due.is("9: full, rank " + i, x.at(i), 128);
            due.is("11: full, its lower bits", x.told(2), 2L * i + 1);
        }
        for (int rank : new int[] {MOST, MOST + 1, -1, LEAST, Integer.MAX_VALUE}) {
            due.changesNothing("9: full, no rank " + rank, x, b -> b.at(rank), NONE);
        }
    }

    private static void addressWhenFull() {
        PrefixBook x = filled(MOST);
        due.changesNothing("2: full, no address", x, b -> b.address(4, 0, 1L << 32) ? 1 : 0, 0);
        due.is("2: full, an address", x.address(4, 0, (1L << 32) - 1), true);
        due.is("11: full, its lower bits", x.told(2), (1L << 32) - 1);
    }

    private static void emptiedAndFilledAgain() {
        PrefixBook x = filled(MOST);
        for (int left = MOST; left > 0; left--) {
            due.is("9: one is there", x.at(left / 2), 128);
            due.is("4: it goes", x.remove(128), 1);
            due.is("10: size", x.size(), left - 1);
        }
        due.is("9: none is left", x.at(0), NONE);
        x.address(4, 0, 0);
        for (int i = 0; i < MOST; i++) {
            x.address(4, 0, i);
            due.is("3: new again", x.put(32, i), 1);
        }
        x.address(4, 0, MOST);
        due.changesNothing("3: full again", x, b -> b.put(32, 5), NONE);
    }

    // The most that a promised run can put: each call up to the 512th answers as it should.
    private static void lastPromisedCall() {
        PrefixBook x = new PrefixBook();
        for (int length = 0; length <= 32; length++) {
            due.is("3: of 4", x.put(length, length), 1);
        }
        x.address(6, 0, 0);
        for (int length = 0; length <= 128; length++) {
            due.is("3: of 6", x.put(length, length), 1);
        }
        int calls = 33 + 1 + 129;
        int there = 33 + 129;
        for (long lower = 1; calls < 510; lower++) {
            x.address(6, 0, lower);
            due.is("3: of 6, lower " + lower, x.put(128, 5), 1);
            calls += 2;
            there++;
        }
        due.is("8: call " + (calls + 1), x.ahead(128), there - 1);
        due.is("10: call " + (calls + 2), x.size(), there);
    }
}
