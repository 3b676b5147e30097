/** Promises 34 to 41: the entries and what is summed over them. */
public final class JournalTest {
    private static final int NONE = StorageLedger.NONE;

    public static void main(String[] args) {
        promises34And35Entries();
        promise36EntryBlock();
        promise37BookedAt();
        promise38Peak();
        promise39Flow();
        promise40ReasonTotal();
        promise41Busiest();
        promises38To41Intervals();
        Check.end("JournalTest");
    }

    /**
     * Entries: 0 free to a, 6 at 0; 1 a to b, 4 at 10, reason 3; 2 free to a, 5 at 10, reason 4;
     * 3 b to a, 4 at 20, the reversal of 1; 4 a to free, 2 at 30, reason 3; 5 free to b, 1 at 40,
     * an adjustment.
     */
    private static StorageLedger journal() {
        StorageLedger x = Check.ledger("blocks 20;pool a 20 0;pool b 20 0;grant a 6");
        x.advance(10);
        x.transfer(1, 2, 4, 3);
        x.transfer(0, 1, 5, 4);
        x.advance(10);
        x.reverse(1);
        x.advance(10);
        x.transfer(1, 0, 2, 3);
        x.advance(10);
        x.corrupt(19, 2);
        x.reconcile();
        return x;
    }

    private static void promises34And35Entries() {
        StorageLedger x = journal();
        Check.same("entries", x.entryCount(), 6);
        String[] due = {"0 1 6 0 0 0 -1", "1 2 4 3 10 0 3", "0 1 5 4 10 0 -1", "2 1 4 3 20 1 1",
            "1 0 2 3 30 0 -1", "0 2 1 0 40 2 -1"};
        for (int entry = 0; entry < due.length; entry++) {
            Check.same("entry " + entry, Check.entry(x, entry), due[entry]);
        }
        Check.index("entry 6", () -> x.entryValue(6, 0));
        Check.index("entry -1", () -> x.entryValue(-1, 7));
        Check.argument("what 7", () -> x.entryValue(0, 7));
        Check.argument("what -1", () -> x.entryValue(0, -1));
    }

    private static void promise36EntryBlock() {
        StorageLedger x = Check.ledger("blocks 200;pool a 200 0;pick highest");
        x.transfer(0, 1, 140, 1);
        x.setPick(0);
        x.transfer(0, 1, 3, 1);
        Check.same("first", x.entryBlock(0, 0), 60);
        Check.same("beyond a word", x.entryBlock(0, 4), 64);
        Check.same("last", x.entryBlock(0, 139), 199);
        Check.same("behind", x.entryBlock(0, 140), NONE);
        Check.same("before", x.entryBlock(0, -1), NONE);
        Check.same("of the next", x.entryBlock(1, 2), 2);
        Check.same("behind the next", x.entryBlock(1, 3), NONE);
        x.corrupt(0, 0);
        Check.same("entries keep their blocks", x.entryBlock(1, 0), 0);
        x.reconcile();
        Check.same("an adjustment has none", x.entryBlock(2, 0), NONE);
        Check.index("entry 3", () -> x.entryBlock(3, 0));
        Check.index("entry -1", () -> x.entryBlock(-1, 0));
        // No entry may show what an earlier ledger's entry left at its place.
        for (int again = 0; again < 3; again++) {
            Check.load(x, "blocks 9;pool a 9 0");
            x.corrupt(0, 1);
            x.reconcile();
            Check.same("an adjustment at a used place", x.entryBlock(0, 0), NONE);
            x.setPick(again);
            x.transfer(0, 1, 1, 0);
            Check.same("a transfer at a used place", x.entryBlock(1, 1), NONE);
        }
    }

    private static void promise37BookedAt() {
        StorageLedger x = journal();
        int[] times = {0, 9, 10, 19, 20, 29, 30, 40, Integer.MAX_VALUE};
        int[] free = {14, 14, 9, 9, 9, 9, 11, 10, 10};
        int[] a = {6, 6, 7, 7, 11, 11, 9, 9, 9};
        int[] b = {0, 0, 4, 4, 0, 0, 0, 1, 1};
        for (int i = 0; i < times.length; i++) {
            Check.same("free at " + times[i], x.bookedAt(0, times[i]), free[i]);
            Check.same("a at " + times[i], x.bookedAt(1, times[i]), a[i]);
            Check.same("b at " + times[i], x.bookedAt(2, times[i]), b[i]);
        }
        Check.index("pool 3", () -> x.bookedAt(3, -1));
        Check.index("pool -1", () -> x.bookedAt(-1, 0));
        Check.argument("time -1", () -> x.bookedAt(0, -1));
    }

    private static void promise38Peak() {
        StorageLedger x = journal();
        Check.same("all of a", x.peak(1, 0, 100), 11);
        Check.same("a before any entry of the interval", x.peak(1, 1, 9), 6);
        Check.same("a at 10", x.peak(1, 10, 10), 7);
        Check.same("free from the start", x.peak(0, 0, 0), 20);
        Check.same("free later", x.peak(0, 1, 5), 14);
        Check.same("free behind 10", x.peak(0, 11, 30), 11);
        Check.same("b behind each entry", x.peak(2, 5, 25), 4);
        Check.same("b with what was before", x.peak(2, 20, 25), 4);
        Check.same("b behind the reversal", x.peak(2, 21, 25), 0);
        Check.same("beyond all entries", x.peak(1, 50, Integer.MAX_VALUE), 9);
        StorageLedger y = Check.ledger("blocks 20;pool a 20 0");
        y.transfer(0, 1, 7, 0);
        y.transfer(1, 0, 7, 0);
        Check.same("a peak between two entries of a time", y.peak(1, 0, 0), 7);
        y.corrupt(0, 1);
        y.transfer(1, 0, 1, 0);
        y.advance(1);
        Check.same("a negative balance", y.peak(1, 1, 2), -1);
    }

    private static void promise39Flow() {
        StorageLedger x = journal();
        Check.same("free to a", x.flow(0, 1, 0, 40), 11);
        Check.same("free to a at 10", x.flow(0, 1, 1, 10), 5);
        Check.same("free to a before 10", x.flow(0, 1, 0, 9), 6);
        Check.same("a to b", x.flow(1, 2, 10, 10), 4);
        Check.same("b to a: reversals count", x.flow(2, 1, 0, 40), 4);
        Check.same("free to b: adjustments count", x.flow(0, 2, 40, 40), 1);
        Check.same("b to free", x.flow(2, 0, 0, 40), 0);
        Check.same("the same pool is no error", x.flow(1, 1, 0, 40), 0);
        Check.index("from 3", () -> x.flow(3, 0, 0, 0));
        Check.index("to -1", () -> x.flow(0, -1, 5, 0));
    }

    private static void promise40ReasonTotal() {
        StorageLedger x = journal();
        Check.same("reason 3", x.reasonTotal(3, 0, 40), 2);
        Check.same("reason 3 at 10", x.reasonTotal(3, 10, 10), 4);
        Check.same("reason 3 at 20", x.reasonTotal(3, 11, 29), -4);
        Check.same("reason 4", x.reasonTotal(4, 0, 40), 5);
        Check.same("reason 0 without the adjustment", x.reasonTotal(0, 0, 40), 6);
        Check.same("the adjustment alone", x.reasonTotal(0, 40, 40), 0);
        Check.same("reason 9", x.reasonTotal(9, 0, 40), 0);
        Check.argument("reason -1", () -> x.reasonTotal(-1, 0, 40));
        Check.argument("reason 10", () -> x.reasonTotal(10, 0, 40));
    }

    private static void promise41Busiest() {
        StorageLedger x = journal();
        Check.same("all", x.busiest(0, 40), 1);
        Check.same("in and out count", x.busiest(10, 10), 1);
        Check.same("the smallest of two", x.busiest(20, 20), 1);
        Check.same("free is a pool", x.busiest(0, 0), 0);
        Check.same("adjustments count", x.busiest(31, 40), 0);
        Check.same("no entries", x.busiest(11, 19), NONE);
        Check.same("no entries at all", new StorageLedger().busiest(0, 5), NONE);
        Check.same("not the first pool", busiestIsLast(), 2);
    }

    private static int busiestIsLast() {
        StorageLedger x = Check.ledger("blocks 20;pool a 20 0;pool b 20 0");
        x.transfer(0, 2, 3, 0);
        x.transfer(2, 1, 2, 0);
        return x.busiest(0, 0);
    }

    private static void promises38To41Intervals() {
        StorageLedger x = journal();
        int[][] wrong = {{-1, 5}, {6, 5}, {0, -1}, {Integer.MIN_VALUE, Integer.MAX_VALUE}};
        for (int[] interval : wrong) {
            int first = interval[0];
            int last = interval[1];
            Check.argument("peak", () -> x.peak(0, first, last));
            Check.argument("flow", () -> x.flow(0, 1, first, last));
            Check.argument("reasonTotal", () -> x.reasonTotal(0, first, last));
            Check.argument("busiest", () -> x.busiest(first, last));
            Check.index("peak of no pool", () -> x.peak(3, first, last));
            Check.index("flow of no pool", () -> x.flow(0, 3, first, last));
        }
        Check.index("peak of pool -1", () -> x.peak(-1, 0, 1));
        Check.index("flow from -1", () -> x.flow(-1, 0, 0, 1));
    }
}
