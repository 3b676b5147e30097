/** What the tests of single sentences share: the answers of the document, by their names. */
abstract class Boundaries {
    static final int NONE = -1;
    static final int FULL = -2;
    static final int NOT_ENOUGH = -3;
    static final int NO_ROOM = -4;
    static final int WRONG_STATE = -5;
    static final int MOVED = -6;
    static final String INDEX = "throws.IndexOutOfBoundsException";
    static final String ARGUMENT = "throws.IllegalArgumentException";
    static final int MAX = Integer.MAX_VALUE;
    static final int MIN = Integer.MIN_VALUE;

    static final String NO_POOL = "Throws `IndexOutOfBoundsException` if there is no such pool";
    static final String NO_BLOCK = "Throws `IndexOutOfBoundsException` if there is no such block";
    static final String NO_ENTRY = "Throws `IndexOutOfBoundsException` if there is no such entry";
    static final String NO_RESERVATION =
            "Throws `IndexOutOfBoundsException` if there is no such reservation";
    static final String ONE_POOL_MISSING =
            "Throws `IndexOutOfBoundsException` if one of the pools does not exist";
    static final String TICKS = "Throws `IllegalArgumentException` if ticks is out of range";
    static final String REASON = "Throws `IllegalArgumentException` if reason is out of range";
    static final String COUNT = "Throws `IllegalArgumentException` if count is out of range";
    static final String WHAT = "Throws `IllegalArgumentException` if what is out of range";
    static final String INTERVAL =
            "Throws `IllegalArgumentException` if first is negative or greater than last";

    /** The numbers around a row of this length, none of which is in it. */
    static int[] outside(int length) {
        return new int[] {-1, length, MAX, MIN};
    }

    /** The numbers around a range, none of which is in it. */
    static int[] outside(int least, int most) {
        return new int[] {least - 1, most + 1, MAX, MIN};
    }

    /** That a call is refused with each of the numbers in the place of the sign #. */
    static void refusedWith(Run run, String call, int[] numbers, Object due) {
        for (int number : numbers) {
            run.still(call.replace("#", "" + number), due);
        }
    }

    /** A small ledger: a has 3 of at most 4 blocks, b has 2 of at most 5, and free has 5 of 10. */
    static Run pools() {
        return Run.of("blocks 10;pool a 4 100;pool b 5 50;grant a 3;grant b 2");
    }

    /** Four blocks, of which a has this many at first, and a journal that holds so many entries. */
    static Run journal(int entries) {
        Run run = Run.of("blocks 4;pool a4 1");
        for (int entry = 0; entry < entries; entry++) {
            run.does(entry % 2 == 0 ? "transfer(0, 1, 1, 0)" : "transfer(1, 0, 1, 0)");
        }
        return run;
    }

    /** A description with this many pools beside free: a, b, and so on, with the quota 1. */
    static String manyPools(int pools) {
        StringBuilder text = new StringBuilder("blocks 8");
        for (int pool = 0; pool < pools; pool++) {
            text.append(";pool ").append((char) ('a' + pool)).append(" 1 0");
        }
        return text.toString();
    }
}
