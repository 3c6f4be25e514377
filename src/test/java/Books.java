import java.math.BigInteger;

/** Books, addresses and what can be seen of them, for the tests of boundary cases. */
final class Books {
    static final int[] FAMILIES = {4, 6};

    private Books() {
    }

    static int bits(int family) {
        return family == 4 ? 32 : 128;
    }

    /** The last address of a family. */
    static BigInteger last(int family) {
        return BigInteger.ONE.shiftLeft(bits(family)).subtract(BigInteger.ONE);
    }

    /** The address whose only bit is that of a place, counted from 0 at the front. */
    static BigInteger bit(int family, int place) {
        return BigInteger.ONE.shiftLeft(bits(family) - 1 - place);
    }

    /** The address of a family whose first bits are 1 and the others 0. */
    static BigInteger ones(int family, int many) {
        return last(family).shiftRight(bits(family) - many).shiftLeft(bits(family) - many);
    }

    static boolean tell(PrefixBook x, int family, BigInteger address) {
        return x.address(family, address.shiftRight(64).longValue(), address.longValue());
    }

    static PrefixBook meaning(int family, BigInteger address) {
        PrefixBook x = new PrefixBook();
        tell(x, family, address);
        return x;
    }

    /** A book of one prefix, whose address is meant. */
    static PrefixBook one(int family, BigInteger address, int length, int number) {
        PrefixBook x = meaning(family, address);
        x.put(length, number);
        return x;
    }

    /** 10.0.0.0/8 as 1, 10.0.0.0/16 as 2, 10.1.0.0/16 as 3, and 2000::/3 as 4; the address is as in a new book. */
    static PrefixBook few() {
        PrefixBook x = new PrefixBook();
        x.address(4, 0, 0x0A000000L);
        x.put(8, 1);
        x.put(16, 2);
        x.address(4, 0, 0x0A010000L);
        x.put(16, 3);
        x.address(6, 0x2000000000000000L, 0);
        x.put(3, 4);
        x.address(4, 0, 0);
        return x;
    }

    /** The same few prefixes, with another address that is meant. */
    static PrefixBook few(int family, long upper, long lower) {
        PrefixBook x = few();
        x.address(family, upper, lower);
        return x;
    }

    static String meant(PrefixBook x) {
        return x.told(0) + ":" + Long.toHexString(x.told(1)) + ":" + Long.toHexString(x.told(2));
    }

    static String text(int family, BigInteger address) {
        return family + ":" + Long.toHexString(address.shiftRight(64).longValue())
                + ":" + Long.toHexString(address.longValue());
    }

    /** The prefixes in order, each with its number; the address is told again behind it. */
    static String prefixes(PrefixBook x) {
        int family = (int) x.told(0);
        long upper = x.told(1);
        long lower = x.told(2);
        StringBuilder all = new StringBuilder();
        for (int rank = 0; rank < x.size(); rank++) {
            int length = x.at(rank);
            all.append(' ').append(meant(x)).append('/').append(length).append('=').append(x.number(length));
        }
        x.address(family, upper, lower);
        return all.toString();
    }

    static String seen(PrefixBook x) {
        return "meant " + meant(x) + " longest " + x.longest() + " covering " + x.covering()
                + " size " + x.size() + " of" + prefixes(x);
    }
}
