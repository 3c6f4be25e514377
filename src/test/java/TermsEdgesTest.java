import java.math.BigInteger;

/** Each boundary case that the document's terms name, in each promise that it touches. */
public final class TermsEdgesTest {
    private static final int NONE = PrefixBook.NONE;
    private static final int LEAST = Integer.MIN_VALUE;
    private static final int GREATEST = Integer.MAX_VALUE;
    private static final long SHORT_END = 1L << 32;
    private static final BigInteger ZERO = BigInteger.ZERO;
    private static final BigInteger ONE = BigInteger.ONE;

    private static final Due due = new Due();

    public static void main(String[] args) {
        thereAreTwoFamilies();
        upperBitsOfFamily4AreZero();
        lowerBitsOfFamily4AreBelow32Bits();
        allBitsOfFamily6AreFree();
        lengthsOfPut();
        lengthsOfRemove();
        lengthsOfNumber();
        lengthsGoWithTheFamilyThatIsMeant();
        bitsBehindTheLengthOfPut();
        bitsBehindTheLengthOfRemove();
        bitsBehindTheLengthOfNumber();
        oneBitFarBehindTheLength();
        family4StandsFirst();
        addressesStandWithoutSign();
        upperBitsStandBeforeLowerBits();
        addressesStandBeforeLengths();
        lengthsStandLast();
        longestAtBothEndsOfAPrefix();
        coveringAtBothEndsOfAPrefix();
        coversItsFamilyAlone();
        due.end();
    }

    // "FAMILY 4 has addresses of 32 bits, 6 of 128"
    private static void thereAreTwoFamilies() {
        for (int family : Books.FAMILIES) {
            due.is("2: family " + family, new PrefixBook().address(family, 0, 1), true);
        }
        int[] others = {3, 5, 7, 0, -1, 1, 2, 8, -4, -6, 4 + 256, 6 + 65536, 4 | LEAST, 6 | LEAST, LEAST, GREATEST};
        for (int family : others) {
            refusedAddress(family, 0, 0);
            refusedAddress(family, 0, 1);
            refusedAddress(family, 1, 1);
        }
    }

    private static void refusedAddress(int family, long upper, long lower) {
        String call = "2: address(" + family + ", " + upper + ", " + lower + ")";
        PrefixBook x = Books.few();
        due.changesNothing(call, x, b -> b.address(family, upper, lower) ? 1 : 0, 0);
        x.address(4, 0, 0x0A010203L);
        due.changesNothing(call + " behind one of 4", x, b -> b.address(family, upper, lower) ? 1 : 0, 0);
        x.address(6, -2, -3);
        due.changesNothing(call + " behind one of 6", x, b -> b.address(family, upper, lower) ? 1 : 0, 0);
    }

    private static void takenAddress(int family, long upper, long lower) {
        String call = "2: address(" + family + ", " + upper + ", " + lower + ")";
        PrefixBook x = Books.few();
        String prefixes = Books.prefixes(x);
        x.address(10 - family, 0, 77);
        due.is(call, x.address(family, upper, lower), true);
        due.is(call + ": told(0)", x.told(0), family);
        due.is(call + ": told(1)", x.told(1), upper);
        due.is(call + ": told(2)", x.told(2), lower);
        due.is(call + ": the prefixes", Books.prefixes(x), prefixes);
    }

    // "of family 4 the upper ones are 0"
    private static void upperBitsOfFamily4AreZero() {
        takenAddress(4, 0, 5);
        for (long upper : new long[] {1, -1, SHORT_END - 1, SHORT_END, Long.MAX_VALUE, Long.MIN_VALUE}) {
            refusedAddress(4, upper, 0);
            refusedAddress(4, upper, 5);
            refusedAddress(4, upper, SHORT_END - 1);
        }
    }

    // "and the lower ones below 2 to the power 32"
    private static void lowerBitsOfFamily4AreBelow32Bits() {
        for (long lower : new long[] {0, 1, (1L << 31) - 1, 1L << 31, SHORT_END - 2, SHORT_END - 1}) {
            takenAddress(4, 0, lower);
        }
        long[] tooLarge = {SHORT_END, SHORT_END + 1, 1L << 33, Long.MAX_VALUE, Long.MIN_VALUE, Long.MIN_VALUE + 1,
            -SHORT_END, -SHORT_END + 1, -(1L << 31), -2, -1};
        for (long lower : tooLarge) {
            refusedAddress(4, 0, lower);
        }
    }

    // "6 of 128 (as upper and lower 64 bits ..)"
    private static void allBitsOfFamily6AreFree() {
        long[] halves = {0, 1, SHORT_END - 1, SHORT_END, Long.MAX_VALUE, Long.MIN_VALUE, -1};
        for (long upper : halves) {
            for (long lower : halves) {
                takenAddress(6, upper, lower);
            }
        }
    }

    private static int[] wrongLengths(int family) {
        int bits = Books.bits(family);
        return new int[] {-1, bits + 1, -2, bits + 2, -32, -64, -96, -128, 160, 192, 256, bits + 256,
            LEAST, LEAST + 1, LEAST + bits, GREATEST, GREATEST - 95, GREATEST - 1};
    }

    // "a length 0 .. 32 or 0 .. 128"
    private static void lengthsOfPut() {
        for (int family : Books.FAMILIES) {
            for (int length = 0; length <= Books.bits(family); length++) {
                PrefixBook x = Books.meaning(family, ZERO);
                due.is("3: family " + family + ", put(" + length + ")", x.put(length, 5), 1);
                due.is("3: it is there", Books.prefixes(x), " " + family + ":0:0/" + length + "=5");
            }
            for (int length : wrongLengths(family)) {
                PrefixBook x = allLengths(family);
                due.changesNothing("3: family " + family + ", put(" + length + ")", x, b -> b.put(length, 5), NONE);
                PrefixBook y = Books.meaning(family, ZERO);
                due.changesNothing("3: empty, put(" + length + ")", y, b -> b.put(length, 5), NONE);
            }
        }
    }

    // Few enough for what is seen of it to stay within the 512 calls of one object.
    private static PrefixBook allLengths(int family) {
        PrefixBook x = Books.meaning(family, ZERO);
        for (int length = 0; length <= Books.bits(family); length += family == 4 ? 4 : 16) {
            x.put(length, length + 100);
        }
        return x;
    }

    private static void lengthsOfRemove() {
        for (int family : Books.FAMILIES) {
            for (int length = 0; length <= Books.bits(family); length++) {
                PrefixBook x = Books.one(family, ZERO, length, 5);
                due.is("4: family " + family + ", remove(" + length + ")", x.remove(length), 1);
                int gone = length;
                due.changesNothing("4: and again", x, b -> b.remove(gone), 0);
            }
            for (int length : wrongLengths(family)) {
                PrefixBook x = allLengths(family);
                due.changesNothing("4: family " + family + ", remove(" + length + ")", x, b -> b.remove(length), NONE);
                PrefixBook y = Books.meaning(family, ZERO);
                due.changesNothing("4: empty, remove(" + length + ")", y, b -> b.remove(length), NONE);
            }
        }
    }

    private static void lengthsOfNumber() {
        for (int family : Books.FAMILIES) {
            for (int length = 0; length <= Books.bits(family); length++) {
                PrefixBook x = Books.one(family, ZERO, length, 5);
                int there = length;
                due.changesNothing("5: family " + family + ", number(" + length + ")", x, b -> b.number(there), 5);
            }
            for (int length : wrongLengths(family)) {
                PrefixBook x = allLengths(family);
                due.changesNothing("5: family " + family + ", number(" + length + ")", x, b -> b.number(length), LEAST);
            }
        }
    }

    private static void lengthsGoWithTheFamilyThatIsMeant() {
        PrefixBook x = new PrefixBook();
        due.is("3: 33 at first", x.put(33, 1), NONE);
        x.address(6, 0, 0);
        due.is("3: 33 behind an address of 6", x.put(33, 1), 1);
        due.is("5: 33 behind an address of 6", x.number(33), 1);
        due.is("3: 32 of 6", x.put(32, 2), 1);
        x.address(4, 0, 0);
        due.is("3: 33 behind an address of 4", x.put(33, 1), NONE);
        due.is("4: 33 behind an address of 4", x.remove(33), NONE);
        due.is("5: 33 behind an address of 4", x.number(33), LEAST);
        due.is("8: 33 behind an address of 4", x.ahead(33), NONE);
        due.is("3: 32 of 4", x.put(32, 3), 1);
        due.is("9: the first of 6", x.at(1), 32);
        due.is("3: 34 behind at of 6", x.put(34, 1), 1);
        due.is("8: 34 behind at of 6", x.ahead(34), 3);
        due.is("4: 34 behind at of 6", x.remove(34), 1);
        due.is("9: the one of 4", x.at(0), 32);
        due.is("3: 34 behind at of 4", x.put(34, 1), NONE);
        due.is("8: 34 behind at of 4", x.ahead(34), NONE);
        due.is("4: 34 behind at of 4", x.remove(34), NONE);
        x.address(5, 0, 0);
        due.is("3: 34 behind an address that is none", x.put(34, 1), NONE);
    }

    // "all bits behind it 0": the address's last bit stands just within the length, or just behind it.
    private static void bitsBehindTheLengthOfPut() {
        for (int family : Books.FAMILIES) {
            for (int many = 1; many <= Books.bits(family); many++) {
                for (BigInteger address : new BigInteger[] {Books.ones(family, many), Books.bit(family, many - 1)}) {
                    String what = "3: " + Books.text(family, address) + ", put(";
                    int enough = many;
                    PrefixBook x = Books.meaning(family, address);
                    due.changesNothing(what + (enough - 1) + ")", x, b -> b.put(enough - 1, 5), NONE);
                    due.is(what + enough + ")", x.put(enough, 6), 1);
                    due.is(what + enough + ") again", x.put(enough, 7), 0);
                    due.changesNothing(what + (enough - 1) + ") then", x, b -> b.put(enough - 1, 5), NONE);
                    due.is("5: its number", x.number(enough), 7);
                }
            }
        }
    }

    private static void bitsBehindTheLengthOfRemove() {
        for (int family : Books.FAMILIES) {
            for (int many = 1; many <= Books.bits(family); many++) {
                BigInteger address = Books.bit(family, many - 1);
                String what = "4: " + Books.text(family, address) + ", remove(";
                int enough = many;
                PrefixBook x = Books.one(family, ZERO, many - 1, 5);
                Books.tell(x, family, address);
                due.changesNothing(what + (enough - 1) + ")", x, b -> b.remove(enough - 1), NONE);
                due.changesNothing(what + enough + ")", x, b -> b.remove(enough), 0);
                x.put(enough, 6);
                due.changesNothing(what + (enough - 1) + ") then", x, b -> b.remove(enough - 1), NONE);
                due.is(what + enough + ") then", x.remove(enough), 1);
                due.is("4: the other stays", x.size(), 1);
            }
        }
    }

    private static void bitsBehindTheLengthOfNumber() {
        for (int family : Books.FAMILIES) {
            for (int many = 1; many <= Books.bits(family); many++) {
                BigInteger address = Books.bit(family, many - 1);
                String what = "5: " + Books.text(family, address) + ", number(";
                int enough = many;
                PrefixBook x = Books.one(family, ZERO, many - 1, 5);
                due.is("5: without the bit", x.number(enough - 1), 5);
                Books.tell(x, family, address);
                due.changesNothing(what + (enough - 1) + ")", x, b -> b.number(enough - 1), LEAST);
                due.changesNothing(what + enough + ")", x, b -> b.number(enough), LEAST);
                x.put(enough, 6);
                due.changesNothing(what + (enough - 1) + ") then", x, b -> b.number(enough - 1), LEAST);
                due.changesNothing(what + enough + ") then", x, b -> b.number(enough), 6);
            }
        }
    }

    // The last bit of all is behind each length but the last, whatever the halves' bounds are.
    private static void oneBitFarBehindTheLength() {
        for (int family : Books.FAMILIES) {
            for (int length = 0; length < Books.bits(family); length++) {
                int shorter = length;
                PrefixBook x = Books.one(family, ZERO, length, 5);
                Books.tell(x, family, Books.ones(family, length).add(ONE));
                String what = "family " + family + ", last bit set, length " + length;
                due.changesNothing("3: " + what, x, b -> b.put(shorter, 6), NONE);
                due.changesNothing("4: " + what, x, b -> b.remove(shorter), NONE);
                due.changesNothing("5: " + what, x, b -> b.number(shorter), LEAST);
            }
        }
    }

    /** The one stands just ahead of the other, whichever was put first. */
    private static void stands(int[] families, BigInteger[] addresses, int[] lengths) {
        String want = "";
        for (int i = 0; i < 2; i++) {
            want += " " + Books.text(families[i], addresses[i]) + "/" + lengths[i] + "=" + i;
        }
        for (int first = 0; first < 2; first++) {
            PrefixBook x = Books.one(families[first], addresses[first], lengths[first], first);
            int second = 1 - first;
            Books.tell(x, families[second], addresses[second]);
            due.is("8:" + want + ": ahead of the second that is not there", x.ahead(lengths[second]), second);
            due.is("3:" + want + ": the second put", x.put(lengths[second], second), 1);
            due.is("9:" + want + ": in order", Books.prefixes(x), want);
            for (int i = 0; i < 2; i++) {
                Books.tell(x, families[i], addresses[i]);
                due.is("8:" + want + ": ahead of " + i, x.ahead(lengths[i]), i);
                due.is("5:" + want + ": number of " + i, x.number(lengths[i]), i);
            }
            due.is("4:" + want + ": the second goes", x.remove(lengths[1]), 1);
            Books.tell(x, families[0], addresses[0]);
            due.is("4:" + want + ": the first goes", x.remove(lengths[0]), 1);
        }
    }

    private static void stands(int family, BigInteger ahead, int aheadLength, BigInteger behind, int behindLength) {
        stands(new int[] {family, family}, new BigInteger[] {ahead, behind}, new int[] {aheadLength, behindLength});
    }

    // "Prefixes stand family 4 first"
    private static void family4StandsFirst() {
        int[] families = {4, 6};
        stands(families, new BigInteger[] {Books.last(4), ZERO}, new int[] {32, 0});
        stands(families, new BigInteger[] {ZERO, ZERO}, new int[] {32, 0});
        stands(families, new BigInteger[] {ZERO, ZERO}, new int[] {32, 32});
        stands(families, new BigInteger[] {ZERO, ZERO}, new int[] {0, 0});
        stands(families, new BigInteger[] {Books.last(4), ONE}, new int[] {32, 128});
        stands(families, new BigInteger[] {ZERO, Books.last(6)}, new int[] {0, 128});
    }

    // "then by address (without sign)": each place where a sign of 32 or 64 bits would turn the order round.
    private static void addressesStandWithoutSign() {
        for (int family : Books.FAMILIES) {
            int most = Books.bits(family);
            stands(family, ZERO, most, ONE, most);
            stands(family, Books.last(family).subtract(ONE), most, Books.last(family), most);
            for (int place = 0; place < most; place++) {
                BigInteger turn = Books.bit(family, place);
                stands(family, turn.subtract(ONE), most, turn, most);
                stands(family, turn.subtract(ONE), most, turn, place + 1);
                stands(family, ZERO, most, turn, most);
                stands(family, turn, most, Books.last(family), most);
            }
        }
    }

    private static void upperBitsStandBeforeLowerBits() {
        for (long upper : new long[] {1, Long.MAX_VALUE, Long.MIN_VALUE, -1}) {
            BigInteger small = new BigInteger(Long.toUnsignedString(upper)).subtract(ONE).shiftLeft(64);
            BigInteger large = small.add(ONE.shiftLeft(64));
            BigInteger half = ONE.shiftLeft(64).subtract(ONE);
            stands(6, small.add(half), 128, large, 64);
            stands(6, small.add(half), 128, large, 128);
            stands(6, small.add(half), 128, large.add(ONE), 128);
            stands(6, small.add(ONE), 128, large.add(half), 128);
        }
    }

    // "then by length": only where the addresses are the same.
    private static void addressesStandBeforeLengths() {
        for (int family : Books.FAMILIES) {
            BigInteger half = Books.bit(family, 0);
            stands(family, ZERO, Books.bits(family), half, 1);
            stands(family, ZERO, 0, half, 1);
            stands(family, ZERO, 2, Books.bit(family, 1), 2);
        }
    }

    private static void lengthsStandLast() {
        for (int family : Books.FAMILIES) {
            for (int length = 0; length < Books.bits(family); length++) {
                stands(family, ZERO, length, ZERO, length + 1);
                stands(family, ZERO, 0, ZERO, length + 1);
                if (length > 0) {
                    stands(family, Books.ones(family, length), length, Books.ones(family, length), length + 1);
                }
            }
        }
    }

    /** Three prefixes of a length: all bits 0, all 1, and 0 up to one last 1; less where they are the same. */
    private static BigInteger[] prefixesOf(int family, int length) {
        if (length == 0) {
            return new BigInteger[] {ZERO};
        }
        return new BigInteger[] {ZERO, Books.ones(family, length), Books.bit(family, length - 1)};
    }

    // "One COVERS an address of its family whose first bits are its."
    private static void longestAtBothEndsOfAPrefix() {
        for (int family : Books.FAMILIES) {
            for (int length = 0; length <= Books.bits(family); length++) {
                for (BigInteger first : prefixesOf(family, length)) {
                    PrefixBook x = Books.one(family, first, length, 5);
                    BigInteger end = first.add(ONE.shiftLeft(Books.bits(family) - length));
                    longestIs(x, family, first, length);
                    longestIs(x, family, end.subtract(ONE), length);
                    longestIs(x, family, first.subtract(ONE), NONE);
                    longestIs(x, family, end, NONE);
                }
            }
        }
    }

    private static boolean isOf(int family, BigInteger address) {
        return address.signum() >= 0 && address.compareTo(Books.last(family)) <= 0;
    }

    private static void longestIs(PrefixBook x, int family, BigInteger address, int want) {
        if (isOf(family, address)) {
            Books.tell(x, family, address);
            due.changesNothing("6:" + Books.prefixes(x) + ", longest of " + Books.text(family, address), x,
                    b -> b.longest(), want);
        }
    }

    private static void coveringAtBothEndsOfAPrefix() {
        for (int family : Books.FAMILIES) {
            for (int length = 0; length <= Books.bits(family); length++) {
                for (BigInteger first : prefixesOf(family, length)) {
                    PrefixBook x = Books.one(family, first, length, 5);
                    BigInteger end = first.add(ONE.shiftLeft(Books.bits(family) - length));
                    coveringIs(x, family, first, 1);
                    coveringIs(x, family, end.subtract(ONE), 1);
                    coveringIs(x, family, first.subtract(ONE), 0);
                    coveringIs(x, family, end, 0);
                }
            }
        }
    }

    private static void coveringIs(PrefixBook x, int family, BigInteger address, int want) {
        if (isOf(family, address)) {
            Books.tell(x, family, address);
            due.changesNothing("7:" + Books.prefixes(x) + ", covering of " + Books.text(family, address), x,
                    b -> b.covering(), want);
        }
    }

    // "of its family": the same bits of the other one, from the front and from the back, are not covered.
    private static void coversItsFamilyAlone() {
        for (BigInteger address : new BigInteger[] {ZERO, ONE, Books.last(4), Books.last(6)}) {
            PrefixBook x = Books.one(4, ZERO, 0, 5);
            longestIs(x, 6, address, NONE);
            coveringIs(x, 6, address, 0);
        }
        for (BigInteger address : new BigInteger[] {ZERO, ONE, Books.last(4)}) {
            PrefixBook y = Books.one(6, ZERO, 0, 5);
            y.put(96, 6);
            longestIs(y, 4, address, NONE);
            coveringIs(y, 4, address, 0);
            longestIs(y, 6, address, 96);
            coveringIs(y, 6, address, 2);
        }
        PrefixBook z = Books.one(4, Books.bit(4, 0), 1, 5);
        longestIs(z, 6, Books.bit(6, 0), NONE);
        longestIs(z, 6, Books.bit(4, 0), NONE);
    }
}
