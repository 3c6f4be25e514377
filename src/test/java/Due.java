/** Counts and prints the answers that are not the ones due. */
final class Due {
    /** A call on a book, so that what can be seen before and after it can be compared. */
    interface Call {
        long on(PrefixBook x);
    }

    private int wrong = 0;
    private int asked = 0;

    void is(String call, long got, long want) {
        asked++;
        if (got != want) {
            wrong++;
            System.out.println(call + " answered " + got + ", due is " + want);
        }
    }

    void is(String call, boolean got, boolean want) {
        is(call, got ? 1L : 0L, want ? 1L : 0L);
    }

    void is(String call, String got, String want) {
        asked++;
        if (!got.equals(want)) {
            wrong++;
            System.out.println(call + " gave " + got + ", due is " + want);
        }
    }

    /** The call answers as it should, and nothing that can be seen of the book is another behind it. */
    void changesNothing(String what, PrefixBook x, Call call, long want) {
        String before = Books.seen(x);
        is(what, call.on(x), want);
        is(what + ", what is seen behind it", Books.seen(x), before);
    }

    void end() {
        System.out.println(asked + " answers, " + wrong + " not as due");
        if (wrong != 0) {
            System.exit(1);
        }
    }
}
