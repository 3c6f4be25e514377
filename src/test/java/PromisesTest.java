/** Each promise of the document by its ordinary inputs, the edges that it names, and wrong inputs. */
public final class PromisesTest {
    private static final int LEAST = Integer.MIN_VALUE;
    private static final int GREATEST = Integer.MAX_VALUE;
    private static final long SHORT_LAST = 0xFFFFFFFFL;

    private static final Due due = new Due();

    public static void main(String[] args) {
        promise1NewObject();
        promise2Address();
        promise3Put();
        promise3PutLengths();
        promise3PutWrong();
        promise4Remove();
        promise4RemoveWrong();
        promise5Number();
        promise6Longest();
        promise6LongestLongFamily();
        promise7Covering();
        promise8Ahead();
        promise8AheadOrder();
        promise9At();
        promise10Size();
        promise11Told();
        objectsAreApart();
        due.end();
    }

    private static long ip(int a, int b, int c, int d) {
        return ((long) a << 24) | ((long) b << 16) | ((long) c << 8) | d;
    }

    private static void meant(String where, PrefixBook x, long family, long upper, long lower) {
        due.is(where + ": told(0)", x.told(0), family);
        due.is(where + ": told(1)", x.told(1), upper);
        due.is(where + ": told(2)", x.told(2), lower);
    }

    /** A book with one prefix. */
    private static PrefixBook one(int family, long upper, long lower, int length) {
        PrefixBook x = new PrefixBook();
        due.is("one: address", x.address(family, upper, lower), true);
        due.is("one: put(" + length + ")", x.put(length, length), 1);
        return x;
    }

    private static void promise1NewObject() {
        PrefixBook x = new PrefixBook();
        due.is("1: size", x.size(), 0);
        due.is("1: longest", x.longest(), PrefixBook.NONE);
        due.is("1: covering", x.covering(), 0);
        due.is("1: ahead", x.ahead(32), 0);
        due.is("1: ahead of family 4 has no 33", x.ahead(33), PrefixBook.NONE);
        due.is("1: at", x.at(0), PrefixBook.NONE);
        due.is("1: number", x.number(0), LEAST);
        due.is("1: remove", x.remove(0), 0);
        meant("1", x, 4, 0, 0);
    }

    private static void promise2Address() {
        PrefixBook x = new PrefixBook();
        due.is("2: last of 4", x.address(4, 0, SHORT_LAST), true);
        meant("2: last of 4", x, 4, 0, SHORT_LAST);
        due.is("2: any of 6", x.address(6, -1, Long.MIN_VALUE), true);
        meant("2: any of 6", x, 6, -1, Long.MIN_VALUE);
        for (int family : new int[] {LEAST, -6, -4, -1, 0, 1, 3, 5, 7, 64, 128, GREATEST}) {
            due.is("2: family " + family, x.address(family, 0, 0), false);
        }
        long[] wrongLowers = {SHORT_LAST + 1, -1, -SHORT_LAST, Long.MAX_VALUE, Long.MIN_VALUE, 1L << 40};
        for (long lower : wrongLowers) {
            due.is("2: lower " + lower, x.address(4, 0, lower), false);
        }
        for (long upper : new long[] {1, -1, Long.MIN_VALUE, 1L << 32}) {
            due.is("2: upper " + upper, x.address(4, upper, 5), false);
        }
        meant("2: after wrong ones", x, 6, -1, Long.MIN_VALUE);
        due.is("2: 0 of 6", x.address(6, 0, 0), true);
        meant("2: 0 of 6", x, 6, 0, 0);
    }

    private static void promise3Put() {
        PrefixBook x = new PrefixBook();
        due.is("3: first address is 0 of 4", x.put(32, 11), 1);
        due.is("3: another length", x.put(0, 12), 1);
        due.is("3: again", x.put(32, 13), 0);
        due.is("3: the same number again", x.put(32, 13), 0);
        due.is("3: new number", x.number(32), 13);
        due.is("3: the other keeps its own", x.number(0), 12);
        x.address(6, 0, 0);
        due.is("3: the same bits of 6", x.put(32, 14), 1);
        due.is("3: number in 6", x.number(32), 14);
        x.address(4, 0, 0);
        due.is("3: number in 4", x.number(32), 13);
        due.is("3: size", x.size(), 3);
        meant("3: put leaves the address", x, 4, 0, 0);
        for (int number : new int[] {LEAST, GREATEST, -1, 0}) {
            x.put(8, number);
            due.is("3: number " + number, x.number(8), number);
        }
        due.is("3: size at the end", x.size(), 4);
    }

    private static void promise3PutLengths() {
        for (int last = 0; last < 32; last++) {
            PrefixBook x = new PrefixBook();
            x.address(4, 0, 1L << (31 - last));
            due.is("3: 4, last bit " + last + ", length short by one", x.put(last, 1), PrefixBook.NONE);
            due.is("3: 4, last bit " + last + ", length just enough", x.put(last + 1, 1), 1);
        }
        for (int last = 0; last < 128; last++) {
            PrefixBook x = new PrefixBook();
            x.address(6, last < 64 ? 1L << (63 - last) : 0, last < 64 ? 0 : 1L << (127 - last));
            due.is("3: 6, last bit " + last + ", length short by one", x.put(last, 1), PrefixBook.NONE);
            due.is("3: 6, last bit " + last + ", length 0", x.put(0, 1), PrefixBook.NONE);
            due.is("3: 6, last bit " + last + ", length just enough", x.put(last + 1, 1), 1);
        }
    }

    private static void promise3PutWrong() {
        PrefixBook x = new PrefixBook();
        for (int length : new int[] {LEAST, -96, -64, -1, 33, 64, 96, 128, 129, GREATEST}) {
            due.is("3: 4, length " + length, x.put(length, 1), PrefixBook.NONE);
        }
        due.is("3: 4, length 32", x.put(32, 1), 1);
        x.address(6, 0, 0);
        for (int length : new int[] {LEAST, -1, 129, 192, 256, GREATEST}) {
            due.is("3: 6, length " + length, x.put(length, 1), PrefixBook.NONE);
        }
        due.is("3: 6, length 33", x.put(33, 1), 1);
        due.is("3: 6, length 128", x.put(128, 1), 1);
        due.is("3: wrong ones are not kept", x.size(), 3);
    }

    private static void promise4Remove() {
        PrefixBook x = new PrefixBook();
        for (int length = 0; length <= 32; length += 8) {
            x.put(length, 100 + length);
        }
        due.is("4: not there", x.remove(7), 0);
        due.is("4: in the middle", x.remove(16), 1);
        due.is("4: twice", x.remove(16), 0);
        due.is("4: its number", x.number(16), LEAST);
        due.is("4: first", x.remove(0), 1);
        due.is("4: last", x.remove(32), 1);
        due.is("4: size", x.size(), 2);
        due.is("4: one keeps its number", x.number(8), 108);
        due.is("4: another keeps its number", x.number(24), 124);
        due.is("4: rank 0", x.at(0), 8);
        due.is("4: rank 1", x.at(1), 24);
        due.is("4: rank 2", x.at(2), PrefixBook.NONE);
        x.address(6, 0, 0);
        due.is("4: the same bits of 6", x.remove(8), 0);
        meant("4: remove leaves the address", x, 6, 0, 0);
        x.address(4, 0, 0);
        due.is("4: put again is new", x.put(16, 1), 1);
        due.is("4: and is there", x.remove(16), 1);
    }

    private static void promise4RemoveWrong() {
        PrefixBook x = one(4, 0, ip(10, 0, 0, 0), 8);
        for (int length : new int[] {LEAST, -1, 33, 64, 128, GREATEST, 0, 4, 6}) {
            due.is("4: wrong length " + length, x.remove(length), PrefixBook.NONE);
        }
        due.is("4: right but not there", x.remove(7), 0);
        x.address(4, 0, ip(10, 0, 0, 1));
        due.is("4: bits behind", x.remove(8), PrefixBook.NONE);
        due.is("4: bits behind by one", x.remove(31), PrefixBook.NONE);
        due.is("4: no bits behind", x.remove(32), 0);
        x.address(6, 0, 0);
        due.is("4: 6, length -1", x.remove(-1), PrefixBook.NONE);
        due.is("4: 6, length 129", x.remove(129), PrefixBook.NONE);
        due.is("4: 6, length 128", x.remove(128), 0);
        due.is("4: size", x.size(), 1);
    }

    private static void promise5Number() {
        PrefixBook x = one(4, 0, ip(10, 0, 0, 0), 8);
        due.is("5: there", x.number(8), 8);
        due.is("5: another length", x.number(9), LEAST);
        due.is("5: none, bits behind", x.number(4), LEAST);
        for (int length : new int[] {LEAST, -1, 33, 129, GREATEST}) {
            due.is("5: wrong length " + length, x.number(length), LEAST);
        }
        x.address(4, 0, ip(10, 0, 0, 1));
        due.is("5: covered, but bits behind", x.number(8), LEAST);
        x.address(6, 0, ip(10, 0, 0, 0));
        due.is("5: the same bits of 6", x.number(8), LEAST);
        due.is("5: the same bits of 6, 104", x.number(104), LEAST);
        due.is("5: size", x.size(), 1);
        x = one(6, 0, 0, 32);
        x.address(4, 0, 0);
        due.is("5: 4, when 6 alone has the bits", x.number(32), LEAST);
        due.is("4: 4, when 6 alone has the bits", x.remove(32), 0);
        due.is("3: 4, when 6 alone has the bits", x.put(32, 1), 1);
        due.is("10: both are there", x.size(), 2);
    }

    private static void promise6Longest() {
        PrefixBook x = one(4, 0, ip(10, 0, 0, 0), 8);
        x.put(16, 1);
        x.put(32, 1);
        due.is("6: all three", x.longest(), 32);
        x.address(4, 0, ip(10, 0, 255, 255));
        due.is("6: last of 16", x.longest(), 16);
        x.address(4, 0, ip(10, 1, 0, 0));
        due.is("6: behind 16", x.longest(), 8);
        x.address(4, 0, ip(10, 255, 255, 255));
        due.is("6: last of 8", x.longest(), 8);
        x.address(4, 0, ip(11, 0, 0, 0));
        due.is("6: behind 8", x.longest(), PrefixBook.NONE);
        x.address(4, 0, ip(9, 255, 255, 255));
        due.is("6: ahead of 8", x.longest(), PrefixBook.NONE);
        x.address(6, 0, ip(10, 0, 0, 0));
        due.is("6: the other family", x.longest(), PrefixBook.NONE);
        x = one(4, 0, 0, 0);
        x.address(4, 0, SHORT_LAST);
        due.is("6: length 0 of 4 covers the last", x.longest(), 0);
        x.address(6, 0, 0);
        due.is("6: length 0 of 4 covers none of 6", x.longest(), PrefixBook.NONE);
        x = one(6, 0, 0, 0);
        x.address(6, -1, -1);
        due.is("6: length 0 of 6 covers the last", x.longest(), 0);
        x.address(4, 0, 0);
        due.is("6: length 0 of 6 covers none of 4", x.longest(), PrefixBook.NONE);
        meant("6: longest leaves the address", x, 4, 0, 0);
    }

    /** An address that differs from a prefix of n bits in bit n is covered, in bit n - 1 not. */
    private static void promise6LongestLongFamily() {
        for (int length = 0; length <= 128; length++) {
            PrefixBook x = one(6, 0, 0, length);
            for (int bit = 0; bit < 128; bit++) {
                x.address(6, bit < 64 ? 1L << (63 - bit) : 0, bit < 64 ? 0 : 1L << (127 - bit));
                due.is("6: 6, length " + length + ", bit " + bit, x.longest(), bit < length ? PrefixBook.NONE : length);
            }
        }
        for (int length = 0; length <= 32; length++) {
            PrefixBook x = one(4, 0, 0, length);
            for (int bit = 0; bit < 32; bit++) {
                x.address(4, 0, 1L << (31 - bit));
                due.is("6: 4, length " + length + ", bit " + bit, x.longest(), bit < length ? PrefixBook.NONE : length);
            }
        }
    }

    private static void promise7Covering() {
        PrefixBook x = new PrefixBook();
        for (int length = 0; length <= 32; length++) {
            x.put(length, length);
        }
        due.is("7: all of 4", x.covering(), 33);
        x.address(4, 0, 1);
        due.is("7: all but 32", x.covering(), 32);
        x.address(4, 0, SHORT_LAST);
        due.is("7: the one of length 0", x.covering(), 1);
        x.address(6, 0, 0);
        due.is("7: none of 6", x.covering(), 0);
        for (int length = 0; length <= 128; length++) {
            x.put(length, length);
        }
        due.is("7: all of 6", x.covering(), 129);
        x.address(6, 0, Long.MIN_VALUE);
        due.is("7: up to 64", x.covering(), 65);
        x.address(6, 1, 0);
        due.is("7: up to 63", x.covering(), 64);
        x.address(6, Long.MIN_VALUE, 0);
        due.is("7: the one of length 0 of 6", x.covering(), 1);
        x.remove(0);
        due.is("7: remove there is refused", x.covering(), 1);
        meant("7: covering leaves the address", x, 6, Long.MIN_VALUE, 0);
    }

    private static void promise8Ahead() {
        PrefixBook x = one(4, 0, ip(10, 0, 0, 0), 8);
        x.put(16, 1);
        due.is("8: itself not counted", x.ahead(8), 0);
        due.is("8: longer", x.ahead(9), 1);
        due.is("8: itself behind one", x.ahead(16), 1);
        due.is("8: longest", x.ahead(32), 2);
        due.is("8: bits behind", x.ahead(0), 0);
        x.address(4, 0, ip(10, 0, 0, 1));
        due.is("8: bits behind count in the order", x.ahead(0), 2);
        for (int length : new int[] {LEAST, -1, 33, 64, 128, GREATEST}) {
            due.is("8: 4, wrong length " + length, x.ahead(length), PrefixBook.NONE);
        }
        x.address(6, 0, 0);
        due.is("8: 4 stands ahead of 6", x.ahead(0), 2);
        due.is("8: 6, length 128", x.ahead(128), 2);
        for (int length : new int[] {LEAST, -1, 129, 192, GREATEST}) {
            due.is("8: 6, wrong length " + length, x.ahead(length), PrefixBook.NONE);
        }
        meant("8: ahead leaves the address", x, 6, 0, 0);
    }

    private static void promise8AheadOrder() {
        long[][] order = {{4, 0, 0, 0}, {4, 0, 0, 32}, {4, 0, ip(127, 0, 0, 0), 8}, {4, 0, ip(128, 0, 0, 0), 1},
            {4, 0, SHORT_LAST, 32}, {6, 0, 0, 0}, {6, 0, 0, 128}, {6, 0, 1, 128}, {6, 0, Long.MAX_VALUE, 128},
            {6, 0, Long.MIN_VALUE, 65}, {6, 0, -1, 128}, {6, 1, 0, 64}, {6, 1, 0, 65}, {6, Long.MAX_VALUE, -1, 128},
            {6, Long.MIN_VALUE, 0, 1}, {6, Long.MIN_VALUE, 0, 128}, {6, -1, 0, 64}, {6, -1, -1, 128}};
        for (int step : new int[] {1, 5, 7, 11, 17}) {
            PrefixBook x = new PrefixBook();
            for (int i = 0; i < order.length; i++) {
                int pick = (i * step + 3) % order.length;
                x.address((int) order[pick][0], order[pick][1], order[pick][2]);
                due.is("8: put " + pick, x.put((int) order[pick][3], pick), 1);
            }
            for (int i = 0; i < order.length; i++) {
                x.address((int) order[i][0], order[i][1], order[i][2]);
                due.is("8: ahead of " + i, x.ahead((int) order[i][3]), i);
                x.address(4, 0, 77);
                due.is("9: at " + i, x.at(i), order[i][3]);
                meant("9: at " + i, x, order[i][0], order[i][1], order[i][2]);
                due.is("9: number at " + i, x.number((int) order[i][3]), i);
            }
        }
    }

    private static void promise9At() {
        PrefixBook x = one(6, 5, 0, 64);
        x.address(4, 0, 9);
        x.put(32, 1);
        for (int rank : new int[] {LEAST, -1, 2, 3, 999, 1000, 1001, GREATEST}) {
            due.is("9: no rank " + rank, x.at(rank), PrefixBook.NONE);
            meant("9: no rank " + rank, x, 4, 0, 9);
        }
        due.is("9: rank 1", x.at(1), 64);
        meant("9: rank 1", x, 6, 5, 0);
        due.is("9: the family goes with it", x.ahead(128), 2);
        due.is("9: no rank 2", x.at(2), PrefixBook.NONE);
        meant("9: no rank 2", x, 6, 5, 0);
        due.is("9: rank 0", x.at(0), 32);
        meant("9: rank 0", x, 4, 0, 9);
        due.is("9: taken out", x.remove(32), 1);
        due.is("9: rank 0 is another now", x.at(0), 64);
        due.is("9: rank 1 is none now", x.at(1), PrefixBook.NONE);
    }

    private static void promise10Size() {
        PrefixBook x = new PrefixBook();
        for (int length = 0; length <= 32; length++) {
            due.is("10: size before " + length, x.size(), length);
            x.put(length, 1);
            x.put(length, 2);
        }
        x.put(33, 1);
        x.address(6, 1, 1);
        x.put(127, 1);
        due.is("10: wrong ones do not count", x.size(), 33);
        x.put(128, 1);
        due.is("10: both families count", x.size(), 34);
        x.remove(128);
        x.remove(128);
        due.is("10: one less", x.size(), 33);
    }

    private static void promise11Told() {
        PrefixBook x = new PrefixBook();
        x.address(6, -3, -7);
        meant("11", x, 6, -3, -7);
        for (int what : new int[] {LEAST, -2, -1, 3, 4, 6, 256, GREATEST}) {
            due.is("11: told(" + what + ")", x.told(what), 0);
        }
        x.address(4, 0, SHORT_LAST);
        meant("11: without sign", x, 4, 0, SHORT_LAST);
    }

    private static void objectsAreApart() {
        PrefixBook x = one(6, 1, 0, 64);
        PrefixBook y = new PrefixBook();
        due.is("1: another is empty", y.size(), 0);
        meant("1: another has its own address", y, 4, 0, 0);
        y.put(0, 1);
        due.is("1: the first is as it was", x.size(), 1);
        meant("1: the first has its address", x, 6, 1, 0);
    }
}
