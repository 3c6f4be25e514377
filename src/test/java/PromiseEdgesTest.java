import java.math.BigInteger;
import java.util.function.Supplier;

/** Each boundary case that a promise names by itself: too small, too large, empty, the first, the last, refused. */
public final class PromiseEdgesTest {
    private static final int NONE = PrefixBook.NONE;
    private static final int LEAST = Integer.MIN_VALUE;
    private static final int GREATEST = Integer.MAX_VALUE;
    private static final BigInteger ZERO = BigInteger.ZERO;

    private static final Due due = new Due();

    public static void main(String[] args) {
        promise1EmptyBook();
        promise1EmptiedBook();
        promise2AtFirst();
        promise2UntilAnotherIsTold();
        promise2FalseChangingNothing();
        promise3NewOrThere();
        promise3NumbersFromLeastToGreatest();
        promise3FromNowOn();
        promise3RefusedLeavesTheOthersNumbers();
        promise4ThereOrNot();
        promise4FirstMiddleLast();
        promise4TakesOutOneAlone();
        promise5NotThere();
        promise5IsNone();
        promise5IsNoneOf6();
        promise6NoneOrLengthZero();
        promise6LongestOfAll();
        promise6LongestIsNotTheLastInOrder();
        promise7NoneToAll();
        promise8LengthsOfTheFamily();
        promise8BitsBehindAreAny();
        promise8ItselfNotCounted();
        promise8FirstAndLast();
        promise9RanksFromZero();
        promise9NoSuchRank();
        promise9BecomesTheAddress();
        promise10CountsWhatIsThere();
        promise11Others();
        promise11NegativeHalves();
        due.end();
    }

    private static void isEmpty(String when, Supplier<PrefixBook> made) {
        PrefixBook x = made.get();
        due.changesNothing("10: " + when + ", size", x, b -> b.size(), 0);
        due.changesNothing("6: " + when + ", longest", x, b -> b.longest(), NONE);
        due.changesNothing("7: " + when + ", covering", x, b -> b.covering(), 0);
        for (int rank : new int[] {0, 1, -1, LEAST, GREATEST}) {
            due.changesNothing("9: " + when + ", at(" + rank + ")", x, b -> b.at(rank), NONE);
        }
        int most = Books.bits((int) x.told(0));
        for (int length : new int[] {0, 1, 31, most - 1, most}) {
            PrefixBook y = made.get();
            due.changesNothing("8: " + when + ", ahead(" + length + ")", y, b -> b.ahead(length), 0);
            due.changesNothing("4: " + when + ", remove(" + length + ")", y, b -> b.remove(length), 0);
            due.changesNothing("5: " + when + ", number(" + length + ")", y, b -> b.number(length), LEAST);
        }
    }

    // "An empty book."
    private static void promise1EmptyBook() {
        isEmpty("new", () -> new PrefixBook());
        isEmpty("new, 0 of 6 is meant", () -> Books.meaning(6, ZERO));
        due.is("3: the first of all", new PrefixBook().put(0, 1), 1);
        PrefixBook full = Books.few();
        isEmpty("new beside another", () -> new PrefixBook());
        due.is("1: the other keeps its own", full.size(), 4);
    }

    private static PrefixBook emptied() {
        PrefixBook x = Books.one(4, ZERO, 0, 7);
        due.is("4: the only one", x.remove(0), 1);
        return x;
    }

    private static void promise1EmptiedBook() {
        isEmpty("emptied", () -> emptied());
        PrefixBook x = emptied();
        due.is("3: new again", x.put(0, 8), 1);
        due.is("5: with its new number", x.number(0), 8);
    }

    // "(at first 0 of family 4)"
    private static void promise2AtFirst() {
        PrefixBook x = new PrefixBook();
        due.is("11: at first, family", x.told(0), 4);
        due.is("11: at first, upper", x.told(1), 0);
        due.is("11: at first, lower", x.told(2), 0);
        due.is("8: at first, the longest length", x.ahead(32), 0);
        due.is("8: at first, one more", x.ahead(33), NONE);
        due.is("3: at first, all bits are 0", x.put(0, 5), 1);
        due.is("9: it is there", Books.prefixes(x), " 4:0:0/0=5");
    }

    // "until another is told": no other call but address and at sets it.
    private static void promise2UntilAnotherIsTold() {
        PrefixBook x = Books.few();
        x.address(6, -1, -2);
        x.put(127, 1);
        x.put(128, 1);
        x.put(3, 1);
        x.number(127);
        x.longest();
        x.covering();
        x.ahead(0);
        x.size();
        x.told(0);
        x.remove(127);
        x.remove(3);
        due.is("2: still meant", Books.meant(x), "6:ffffffffffffffff:fffffffffffffffe");
        due.is("2: the same once more", x.address(6, -1, -2), true);
        due.is("2: still meant then", Books.meant(x), "6:ffffffffffffffff:fffffffffffffffe");
        due.is("2: another", x.address(4, 0, 3), true);
        due.is("2: another is meant", Books.meant(x), "4:0:3");
    }

    // "false, changing nothing, when it isn't one"
    private static void promise2FalseChangingNothing() {
        PrefixBook x = Books.few();
        x.address(6, 0x2000000000000000L, 0);
        due.changesNothing("2: one above the last of 4", x, b -> b.address(4, 0, 1L << 32) ? 1 : 0, 0);
        due.changesNothing("2: one below the first of 4", x, b -> b.address(4, 0, -1) ? 1 : 0, 0);
        due.changesNothing("2: upper bits of 4", x, b -> b.address(4, 1, 0) ? 1 : 0, 0);
        due.changesNothing("2: family 5", x, b -> b.address(5, 0, 0) ? 1 : 0, 0);
        due.is("5: the address is still that of 6", x.number(3), 4);
        due.is("8: the family is still 6", x.ahead(128), 4);
    }

    // "1 when it is new, 0 when it was there"
    private static void promise3NewOrThere() {
        for (int family : Books.FAMILIES) {
            PrefixBook x = Books.meaning(family, ZERO);
            for (int length : new int[] {0, 1, Books.bits(family) - 1, Books.bits(family)}) {
                due.is("3: new, length " + length, x.put(length, 1), 1);
                due.is("3: there, length " + length, x.put(length, 1), 0);
                due.is("3: there, another number, length " + length, x.put(length, 2), 0);
            }
            due.is("10: each counts once", x.size(), 4);
            due.is("4: one goes", x.remove(0), 1);
            due.is("3: new again", x.put(0, 3), 1);
            due.is("3: there again", x.put(0, 3), 0);
        }
        PrefixBook y = Books.one(4, ZERO, 32, 1);
        y.address(6, 0, 0);
        due.is("3: new in the other family", y.put(32, 2), 1);
        y.address(6, 0, 1);
        due.is("3: new at another address", y.put(128, 2), 1);
        y.address(6, 1, 1);
        due.is("3: new at other upper bits", y.put(128, 2), 1);
    }

    private static void promise3NumbersFromLeastToGreatest() {
        for (int number : new int[] {LEAST, LEAST + 1, NONE, 0, 1, GREATEST - 1, GREATEST}) {
            PrefixBook x = Books.one(4, ZERO, 8, 77);
            due.is("3: new with " + number, x.put(9, number), 1);
            due.is("5: its number " + number, x.number(9), number);
            due.is("3: there with " + number, x.put(8, number), 0);
            due.is("5: number of the other " + number, x.number(8), number);
            due.is("10: both are there with " + number, x.size(), 2);
            due.is("3: " + number + " is there", x.put(9, 5), 0);
            due.is("4: " + number + " can go", x.remove(8), 1);
        }
    }

    // "has a number from now on"
    private static void promise3FromNowOn() {
        PrefixBook x = Books.few();
        x.address(4, 0, 0x0A000000L);
        due.is("3: a second number", x.put(16, 22), 0);
        due.is("9: the others keep theirs", Books.prefixes(x),
                " 4:0:a000000/8=1 4:0:a000000/16=22 4:0:a010000/16=3 6:2000000000000000:0/3=4");
        due.is("3: a new one between them", x.put(12, 12), 1);
        due.is("9: each has its own number", Books.prefixes(x),
                " 4:0:a000000/8=1 4:0:a000000/12=12 4:0:a000000/16=22 4:0:a010000/16=3 6:2000000000000000:0/3=4");
    }

    // "(bits behind the length must be 0)"
    private static void promise3RefusedLeavesTheOthersNumbers() {
        PrefixBook x = Books.few();
        x.address(4, 0, 0x0A000001L);
        due.changesNothing("3: the last bit is behind 8", x, b -> b.put(8, 99), NONE);
        due.changesNothing("3: the last bit is behind 31", x, b -> b.put(31, 99), NONE);
        due.is("3: it is not behind 32", x.put(32, 99), 1);
        x.address(4, 0, 0x0A010000L);
        due.changesNothing("3: a bit behind 8", x, b -> b.put(8, 99), NONE);
        due.changesNothing("3: a bit behind 15", x, b -> b.put(15, 99), NONE);
        due.is("3: it is not behind 16", x.put(16, 99), 0);
        due.is("5: its number", x.number(16), 99);
    }

    // "1, or 0 when it wasn't there"
    private static void promise4ThereOrNot() {
        for (int family : Books.FAMILIES) {
            PrefixBook x = Books.one(family, ZERO, 8, 1);
            due.changesNothing("4: one shorter", x, b -> b.remove(7), 0);
            due.changesNothing("4: one longer", x, b -> b.remove(9), 0);
            Books.tell(x, 10 - family, ZERO);
            due.changesNothing("4: the other family", x, b -> b.remove(8), 0);
            Books.tell(x, family, Books.bit(family, 7));
            due.changesNothing("4: another address", x, b -> b.remove(8), 0);
            Books.tell(x, family, Books.last(family));
            due.changesNothing("4: bits behind", x, b -> b.remove(8), NONE);
            Books.tell(x, family, ZERO);
            due.is("4: there", x.remove(8), 1);
            due.changesNothing("4: not any more", x, b -> b.remove(8), 0);
        }
    }

    private static void promise4FirstMiddleLast() {
        String[] behind = {
            " 4:0:a000000/16=2 4:0:a010000/16=3 6:2000000000000000:0/3=4",
            " 4:0:a000000/8=1 4:0:a010000/16=3 6:2000000000000000:0/3=4",
            " 4:0:a000000/8=1 4:0:a000000/16=2 6:2000000000000000:0/3=4",
            " 4:0:a000000/8=1 4:0:a000000/16=2 4:0:a010000/16=3"};
        for (int rank = 0; rank < 4; rank++) {
            PrefixBook x = Books.few();
            int length = x.at(rank);
            String meant = Books.meant(x);
            due.is("4: rank " + rank, x.remove(length), 1);
            due.is("10: size", x.size(), 3);
            due.is("11: the address stays", Books.meant(x), meant);
            due.is("5: its number is gone", x.number(length), LEAST);
            due.is("4: the others, without rank " + rank, Books.prefixes(x), behind[rank]);
            due.is("9: no rank 3", x.at(3), NONE);
            due.is("3: new again", x.put(length, rank + 1), 1);
            due.is("4: all are there again", Books.prefixes(x), Books.prefixes(Books.few()));
        }
    }

    private static void promise4TakesOutOneAlone() {
        PrefixBook x = Books.meaning(4, ZERO);
        for (int length = 0; length <= 32; length++) {
            x.put(length, length);
        }
        for (int length = 1; length <= 32; length += 2) {
            due.is("4: length " + length, x.remove(length), 1);
        }
        for (int length = 0; length <= 32; length++) {
            due.is("5: length " + length, x.number(length), length % 2 == 0 ? length : LEAST);
        }
        due.is("7: the others still cover", x.covering(), 17);
    }

    // "the least int when it isn't there"
    private static void promise5NotThere() {
        for (int family : Books.FAMILIES) {
            PrefixBook x = Books.one(family, ZERO, 8, 5);
            due.changesNothing("5: there", x, b -> b.number(8), 5);
            due.changesNothing("5: one shorter", x, b -> b.number(7), LEAST);
            due.changesNothing("5: one longer", x, b -> b.number(9), LEAST);
            Books.tell(x, 10 - family, ZERO);
            due.changesNothing("5: the other family", x, b -> b.number(8), LEAST);
            Books.tell(x, family, Books.bit(family, 7));
            due.changesNothing("5: another address", x, b -> b.number(8), LEAST);
            Books.tell(x, family, ZERO);
            x.remove(8);
            due.changesNothing("5: taken out", x, b -> b.number(8), LEAST);
        }
    }

    // "or is none"
    private static void promise5IsNone() {
        for (int length : new int[] {-1, 33, 0, 6, LEAST, GREATEST}) {
            due.changesNothing("5: none, length " + length, Books.few(4, 0, 0x0A000000L),
                    b -> b.number(length), LEAST);
        }
        PrefixBook x = Books.few(4, 0, 0x0A000000L);
        due.is("5: no bit behind 7, but not there", x.number(7), LEAST);
        x.address(4, 0, 0x0A000001L);
        due.changesNothing("5: covered by 8, but bits behind", x, b -> b.number(8), LEAST);
        due.changesNothing("5: covered by 16, but bits behind", x, b -> b.number(16), LEAST);
    }

    private static void promise5IsNoneOf6() {
        PrefixBook x = Books.few();
        x.address(6, 0x2000000000000000L, 1);
        due.changesNothing("5: covered by 3, but bits behind", x, b -> b.number(3), LEAST);
        x.address(6, 0x2000000000000000L, 0);
        for (int length : new int[] {-1, 129, 2, LEAST, GREATEST}) {
            due.changesNothing("5: none of 6, length " + length, x, b -> b.number(length), LEAST);
        }
        due.changesNothing("5: one of 6", x, b -> b.number(3), 4);
    }

    // "NONE when none does": 0 is a length, and stands for the whole family.
    private static void promise6NoneOrLengthZero() {
        for (int family : Books.FAMILIES) {
            PrefixBook x = Books.one(family, ZERO, 1, 5);
            Books.tell(x, family, Books.last(family));
            due.changesNothing("6: none of " + family, x, b -> b.longest(), NONE);
            Books.tell(x, family, ZERO);
            due.is("3: the whole family", x.put(0, 6), 1);
            due.is("6: the longer one", x.longest(), 1);
            Books.tell(x, family, Books.last(family));
            due.changesNothing("6: the whole family " + family, x, b -> b.longest(), 0);
            Books.tell(x, family, ZERO);
            x.remove(1);
            due.is("6: length 0 alone", x.longest(), 0);
            x.remove(0);
            due.is("6: none is left", x.longest(), NONE);
        }
    }

    private static PrefixBook ofEachLength(int family) {
        PrefixBook x = Books.meaning(family, ZERO);
        for (int length = 0; length <= Books.bits(family); length++) {
            x.put(length, length);
        }
        return x;
    }

    private static void promise6LongestOfAll() {
        for (int family : Books.FAMILIES) {
            int most = Books.bits(family);
            PrefixBook x = Books.meaning(family, ZERO);
            for (int length = 0; length <= most; length++) {
                x.put(length, length);
                due.is("6: up to " + length, x.longest(), length);
            }
            PrefixBook y = ofEachLength(family);
            for (int place = 0; place < most; place++) {
                Books.tell(y, family, Books.bit(family, place));
                due.is("6: all before bit " + place, y.longest(), place);
            }
        }
    }

    // The address's own bits behind a prefix may be any, and what stands between the two does not hide it.
    private static void promise6LongestIsNotTheLastInOrder() {
        PrefixBook x = Books.few();
        x.address(4, 0, 0x0A00FFFFL);
        due.is("6: last of 10.0/16", x.longest(), 16);
        x.address(4, 0, 0x0A020000L);
        due.is("6: behind 10.1/16", x.longest(), 8);
        x.address(4, 0, 0x0AFFFFFFL);
        due.is("6: last of 10/8", x.longest(), 8);
        x.address(4, 0, 0x0B000000L);
        due.is("6: behind 10/8", x.longest(), NONE);
        x.address(4, 0, 0x09FFFFFFL);
        due.is("6: ahead of 10/8", x.longest(), NONE);
        x.address(6, 0x3FFFFFFFFFFFFFFFL, -1);
        due.is("6: last of 2000::/3", x.longest(), 3);
        x.address(6, 0x4000000000000000L, 0);
        due.is("6: behind 2000::/3", x.longest(), NONE);
        x.address(6, 0x1FFFFFFFFFFFFFFFL, -1);
        due.is("6: ahead of 2000::/3", x.longest(), NONE);
    }

    // "How many prefixes cover it."
    private static void promise7NoneToAll() {
        for (int family : Books.FAMILIES) {
            int most = Books.bits(family);
            PrefixBook x = Books.meaning(family, ZERO);
            due.is("7: none", x.covering(), 0);
            for (int length = 0; length <= most; length++) {
                x.put(length, length);
                due.is("7: up to " + length, x.covering(), length + 1);
            }
            PrefixBook y = ofEachLength(family);
            for (int place = 0; place < most; place++) {
                Books.tell(y, family, Books.bit(family, place));
                due.is("7: all before bit " + place, y.covering(), place + 1);
            }
            Books.tell(y, 10 - family, ZERO);
            due.is("7: none of the other family", y.covering(), 0);
        }
    }

    // "(0 to its family's bits ..)"
    private static void promise8LengthsOfTheFamily() {
        for (int family : Books.FAMILIES) {
            int most = Books.bits(family);
            for (BigInteger address : new BigInteger[] {ZERO, Books.bit(family, 5), Books.last(family)}) {
                int[] wrong = {-1, most + 1, LEAST, LEAST + 1, GREATEST, -most, most + 64, most + 256};
                for (int length : wrong) {
                    PrefixBook x = Books.few();
                    Books.tell(x, family, address);
                    due.changesNothing("8: family " + family + ", ahead(" + length + ")", x, b -> b.ahead(length), NONE);
                    due.changesNothing("8: empty, ahead(" + length + ")", Books.meaning(family, address),
                            b -> b.ahead(length), NONE);
                }
                PrefixBook x = Books.few();
                Books.tell(x, family, address);
                for (int length : new int[] {0, 1, most - 1, most}) {
                    due.is("8: family " + family + ", ahead(" + length + ")", x.ahead(length) >= 0, true);
                    due.is("8: empty, ahead(" + length + ")", Books.meaning(family, address).ahead(length), 0);
                }
            }
        }
    }

    // "bits behind it any": the address stands by all of its bits, also by those behind the length.
    private static void promise8BitsBehindAreAny() {
        long[][] cases = {{0x09FFFFFFL, 0}, {0x0A000001L, 2}, {0x0A00FFFFL, 2}, {0x0A010001L, 3}, {0x0AFFFFFFL, 3},
            {0xFFFFFFFFL, 3}};
        for (long[] one : cases) {
            for (int length : new int[] {0, 1, 7, 8, 15, 16, 31, 32}) {
                due.changesNothing("8: 4:" + Long.toHexString(one[0]) + ", ahead(" + length + ")",
                        Books.few(4, 0, one[0]), b -> b.ahead(length), one[1]);
            }
        }
        PrefixBook x = Books.few(6, 0x1FFFFFFFFFFFFFFFL, -1);
        due.is("8: just ahead of 2000::", x.ahead(128), 3);
        x.address(6, 0x2000000000000000L, 1);
        due.is("8: just behind 2000::, length 0", x.ahead(0), 4);
        due.is("8: just behind 2000::, length 128", x.ahead(128), 4);
    }

    // "itself not counted"
    private static void promise8ItselfNotCounted() {
        for (int family : Books.FAMILIES) {
            int most = Books.bits(family);
            for (int length = 0; length <= most; length++) {
                PrefixBook x = Books.meaning(family, ZERO);
                due.is("8: before it is there", x.ahead(length), 0);
                x.put(length, 5);
                due.is("8: itself, length " + length, x.ahead(length), 0);
                due.is("8: one shorter", x.ahead(length - 1), length == 0 ? NONE : 0);
                due.is("8: one longer", x.ahead(length + 1), length == most ? NONE : 1);
            }
        }
        PrefixBook y = Books.few();
        for (int rank = 0; rank < 4; rank++) {
            due.is("8: of rank " + rank, y.ahead(y.at(rank)), rank);
        }
    }

    private static void promise8FirstAndLast() {
        PrefixBook x = Books.few();
        due.is("8: the first of all", x.ahead(0), 0);
        x.address(6, -1, -1);
        due.is("8: the last of all", x.ahead(128), 4);
        x.put(128, 5);
        due.is("8: the last of all is there", x.ahead(128), 4);
        due.is("8: ahead of it by length", x.ahead(127), 4);
        x.address(4, 0, 0xFFFFFFFFL);
        due.is("8: the last of 4", x.ahead(32), 3);
        x.address(6, 0, 0);
        due.is("8: the first of 6", x.ahead(0), 3);
    }

    // "(from 0)"
    private static void promise9RanksFromZero() {
        PrefixBook x = Books.few();
        int[] lengths = {8, 16, 16, 3};
        String[] meant = {"4:0:a000000", "4:0:a000000", "4:0:a010000", "6:2000000000000000:0"};
        for (int rank = 0; rank < 4; rank++) {
            due.is("9: rank " + rank, x.at(rank), lengths[rank]);
            due.is("9: the address of rank " + rank, Books.meant(x), meant[rank]);
        }
        for (int rank = 3; rank >= 0; rank--) {
            due.is("9: back at rank " + rank, x.at(rank), lengths[rank]);
            due.is("9: the address of rank " + rank, Books.meant(x), meant[rank]);
        }
        PrefixBook y = Books.one(4, ZERO, 0, 5);
        y.address(6, 1, 1);
        due.is("9: the only one, length 0", y.at(0), 0);
        due.is("9: its address", Books.meant(y), "4:0:0");
    }

    // "NONE, changing nothing, when there is none"
    private static void promise9NoSuchRank() {
        for (int rank : new int[] {-1, 4, 5, 999, 1000, 1001, LEAST, LEAST + 1, GREATEST}) {
            due.changesNothing("9: of four, at(" + rank + ")", Books.few(), b -> b.at(rank), NONE);
            due.changesNothing("9: of four, at(" + rank + ") behind one of 6", Books.few(6, -5, -6),
                    b -> b.at(rank), NONE);
        }
        PrefixBook y = Books.one(6, ZERO, 0, 5);
        due.changesNothing("9: of one, at(1)", y, b -> b.at(1), NONE);
        due.changesNothing("9: of one, at(-1)", y, b -> b.at(-1), NONE);
        due.is("9: of one, at(0)", y.at(0), 0);
        y.remove(0);
        y.address(6, 0, 7);
        due.changesNothing("9: of none, at(0)", y, b -> b.at(0), NONE);
    }

    // "The address becomes that of the prefix"
    private static void promise9BecomesTheAddress() {
        PrefixBook x = Books.few();
        String before = Books.prefixes(x);
        due.is("9: of 6", x.at(3), 3);
        due.is("5: its number", x.number(3), 4);
        due.is("6: it covers its own address", x.longest(), 3);
        due.is("7: it alone", x.covering(), 1);
        due.is("8: a length of 6", x.ahead(128), 4);
        due.is("9: of 4", x.at(1), 16);
        due.is("7: two cover it", x.covering(), 2);
        due.is("8: no length of 4", x.ahead(33), NONE);
        due.is("10: at changes no prefix", x.size(), 4);
        due.is("9: at changes no prefix", Books.prefixes(x), before);
        due.is("3: put there", x.put(8, 9), 0);
        due.is("4: remove there", x.remove(16), 1);
    }

    // "How many there are."
    private static void promise10CountsWhatIsThere() {
        PrefixBook x = new PrefixBook();
        due.changesNothing("10: none", x, b -> b.size(), 0);
        x.put(33, 1);
        x.put(-1, 1);
        x.remove(0);
        x.remove(33);
        due.is("10: none behind refused ones", x.size(), 0);
        x.put(32, 1);
        due.changesNothing("10: one", x, b -> b.size(), 1);
        x.put(32, 2);
        due.is("10: the same once more", x.size(), 1);
        x.remove(31);
        due.is("10: another was not there", x.size(), 1);
        x.address(6, 0, 0);
        x.put(128, 1);
        due.is("10: of both families", x.size(), 2);
        x.remove(128);
        due.is("10: one is left", x.size(), 1);
        x.address(4, 0, 0);
        x.remove(32);
        due.is("10: none is left", x.size(), 0);
        x.remove(32);
        due.is("10: never below none", x.size(), 0);
    }

    // "0 for others"
    private static void promise11Others() {
        for (long[] address : new long[][] {{6, -3, -7}, {6, 11, 12}, {4, 0, 0xFFFFFFFFL}}) {
            for (int what = 0; what <= 2; what++) {
                int of = what;
                PrefixBook x = Books.few((int) address[0], address[1], address[2]);
                due.changesNothing("11: told(" + what + ")", x, b -> b.told(of), address[what]);
            }
            int[] others = {-1, 3, -2, 4, 5, 6, 8, 256, 257, 258, 65536, 1 | LEAST, 2 | LEAST, LEAST, GREATEST};
            for (int what : others) {
                PrefixBook x = Books.few((int) address[0], address[1], address[2]);
                due.changesNothing("11: told(" + what + ")", x, b -> b.told(what), 0);
            }
        }
    }

    private static void promise11NegativeHalves() {
        PrefixBook x = new PrefixBook();
        for (long half : new long[] {-1, Long.MIN_VALUE, Long.MAX_VALUE, 0, 1L << 32, -(1L << 32), (1L << 32) - 1}) {
            x.address(6, half, ~half);
            due.is("11: upper", x.told(1), half);
            due.is("11: lower", x.told(2), ~half);
        }
        x.address(4, 0, 1L << 31);
        due.is("11: lower of 4 has no sign", x.told(2), 2147483648L);
    }
}
