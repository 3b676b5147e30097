/** Promises 34 to 41: the entries and what is summed over them. */
final class JournalBoundaries extends Boundaries {
    private static final int[][] WRONG_INTERVALS =
            {{-1, 5}, {6, 5}, {0, -1}, {MIN, MAX}, {MAX, 0}, {-1, -1}};

    private JournalBoundaries() {
    }

    static void test() {
        entryCount();
        entryValue();
        entryBlock();
        bookedAt();
        peak();
        flow();
        reasonTotal();
        busiest();
    }

    /**
     * Entries: 0 free to a, 6 at 0; 1 a to b, 4 at 10, reason 3; 2 free to a, 5 at 10, reason 4;
     * 3 b to a, 4 at 20, the reversal of 1; 4 a to free, 2 at 30, reason 3; 5 free to b, 1 at 40,
     * an adjustment.
     */
    private static Run entries() {
        return Run.of("blocks 20;pool a 20 0;pool b 20 0;grant a 6").does("advance(10)",
                "transfer(1, 2, 4, 3)", "transfer(0, 1, 5, 4)", "advance(10)", "reverse(1)",
                "advance(10)", "transfer(1, 0, 2, 3)", "advance(10)", "corrupt(19, 2)", "reconcile()");
    }

    /** That a question is refused for each interval that is none. */
    private static void intervals(String call) {
        for (int[] interval : WRONG_INTERVALS) {
            entries().still(call.replace("#", interval[0] + ", " + interval[1]), ARGUMENT);
        }
        entries().does(call.replace("#", "0, 0"), call.replace("#", "7, 7"), call.replace("#", "0, " + MAX));
    }

    private static void entryCount() {
        Doc.promise(34, "Returns the number of entries.");
        pools().still("entryCount()", 2).does("transfer(0, 1, 1, 0)").still("entryCount()", 3)
                .does("reverse(2)").due("entryCount()", 4).does("swap(0, 9)", "corrupt(0, 1)")
                .due("entryCount()", 4).does("reconcile()").due("entryCount()", 5);
        Doc.promise(34, "Returns 0 to 300.");
        Run.fresh().still("entryCount()", 0);
        journal(299).due("entryCount()", 299).does("transfer(1, 0, 1, 0)").due("entryCount()", 300)
                .due("transfer(0, 1, 1, 0)", FULL).due("entryCount()", 300);
    }

    private static void entryValue() {
        Doc.promise(35, "Returns a property of an entry.");
        entries().still("entryValue(1, 2)", 4).still("entryValue(5, 5)", 2);
        Doc.promise(35, "`what`: 0 the pool from which blocks came; 1 the pool to which they went; 2"
                + " their number; 3 the reason; 4 the time; 5 the kind (0 transfer, 1 reversal, 2"
                + " adjustment)");
        entries().entry(0, "0 1 6 0 0 0 -1").entry(2, "0 1 5 4 10 0 -1").entry(4, "1 0 2 3 30 0 -1");
        Doc.promise(35, "; 6 for a transfer the entry that reversed it");
        entries().due("entryValue(1, 6)", 3).due("entryValue(1, 5)", 0);
        Doc.promise(35, ", for a reversal the entry that it reversed");
        entries().due("entryValue(3, 6)", 1).due("entryValue(3, 5)", 1);
        Run.of("blocks 4;pool a 4 0;grant a 1").does("reverse(0)").due("entryValue(1, 6)", 0);
        Doc.promise(35, ", NONE otherwise");
        entries().due("entryValue(0, 6)", NONE).due("entryValue(4, 6)", NONE).due("entryValue(5, 6)", NONE)
                .due("entryValue(5, 5)", 2);
        Doc.promise(35, "Returns the property.");
        journal(300).due("entryValue(299, 0)", 1).due("entryValue(299, 6)", NONE);
        Doc.promise(35, NO_ENTRY);
        refusedWith(entries(), "entryValue(#, 0)", outside(6), INDEX);
        refusedWith(Run.fresh(), "entryValue(#, 0)", outside(0), INDEX);
        refusedWith(journal(300), "entryValue(#, 0)", outside(300), INDEX);
        Doc.promise(35, WHAT);
        refusedWith(entries(), "entryValue(0, #)", outside(7), ARGUMENT);
    }

    private static void entryBlock() {
        Doc.promise(36, "Returns a block of an entry.");
        pools().still("entryBlock(0, 0)", 0).still("entryBlock(1, 1)", 4);
        Doc.promise(36, "`index`: the index among its blocks in ascending order, from 0");
        MapBoundaries.mapped("0101011").does("setPick(1)", "transfer(1, 2, 3, 0)").blocks(0, "3 5 6");
        Doc.promise(36, "Returns the block");
        Run all = Run.of("blocks 200;pool a 200 0;grant a 200").due("entryBlock(0, 199)", 199);
        all.due("entryBlock(0, 63)", 63).due("entryBlock(0, 64)", 64).due("entryBlock(0, 200)", NONE);
        all.does("transfer(1, 0, 1, 0)").due("entryBlock(0, 199)", 199).blocks(1, "0");
        Run last = Run.of("blocks 200;pool a200 1");
        for (int entry = 0; entry < 299; entry++) {
            last.does(entry % 2 == 0 ? "transfer(0, 1, 1, 0)" : "transfer(1, 0, 1, 0)");
        }
        last.due("transferBlock(199, 1, 0)", 299).blocks(299, "199").blocks(298, "0");
        // The entry keeps its blocks, wherever they are later.
        pools().does("transfer(1, 2, 1, 0)", "corrupt(1, 0)", "swap(2, 9)").blocks(0, "0 1 2");
        Doc.promise(36, "; NONE if there is no such index");
        refusedWith(pools(), "entryBlock(0, #)", outside(3), NONE);
        refusedWith(pools(), "entryBlock(1, #)", outside(2), NONE);
        Doc.promise(36, "(adjustments have no blocks).");
        entries().still("entryBlock(5, 0)", NONE).still("entryBlock(5, -1)", NONE);
        Doc.promise(36, NO_ENTRY);
        refusedWith(entries(), "entryBlock(#, 0)", outside(6), INDEX);
        refusedWith(Run.fresh(), "entryBlock(#, 0)", outside(0), INDEX);
    }

    private static void bookedAt() {
        Doc.promise(37, "Returns the balance of a pool by the journal at the end of a time.");
        entries().still("bookedAt(1, 10)", 7).still("bookedAt(0, 10)", 9).still("bookedAt(2, 10)", 4);
        Doc.promise(37, "`time`: the time, 0 or greater");
        entries().due("bookedAt(1, 0)", 6).due("bookedAt(0, 0)", 14).due("bookedAt(2, " + MAX + ")", 1);
        Doc.promise(37, "Returns the balance with all entries up to this time.");
        Run run = entries().due("bookedAt(1, 9)", 6).due("bookedAt(1, 19)", 7).due("bookedAt(1, 20)", 11);
        run.due("bookedAt(1, 29)", 11).due("bookedAt(1, 30)", 9).due("bookedAt(2, 39)", 0);
        run.due("bookedAt(2, 40)", 1).due("bookedAt(0, 40)", 10).due("bookedAt(2, 41)", 1);
        Run.fresh().due("bookedAt(0, 0)", 10);
        journal(300).due("bookedAt(0, 0)", 4).due("bookedAt(1, " + MAX + ")", 0);
        Run.of("blocks 9;pool a 9 0").does("corrupt(0, 1)", "transfer(1, 0, 1, 0)").due("bookedAt(1, 0)", -1);
        Doc.promise(37, NO_POOL);
        refusedWith(entries(), "bookedAt(#, 0)", outside(3), INDEX);
        Doc.promise(37, "Throws `IllegalArgumentException` if time is negative");
        entries().still("bookedAt(0, -1)", ARGUMENT).still("bookedAt(0, " + MIN + ")", ARGUMENT);
    }

    private static void peak() {
        Doc.promise(38, "Returns the greatest balance of a pool by the journal in an interval.");
        entries().still("peak(1, 0, 40)", 11).still("peak(2, 0, 40)", 4).still("peak(0, 0, 40)", 20);
        Doc.promise(38, "Returns the greatest one among the balance with all entries before first");
        entries().due("peak(1, 1, 9)", 6).due("peak(0, 0, 0)", 20).due("peak(0, 1, 9)", 14)
                .due("peak(2, 20, 25)", 4).due("peak(2, 21, 25)", 0).due("peak(0, 10, 10)", 14)
                .due("peak(1, 50, " + MAX + ")", 9);
        Run.fresh().due("peak(0, 0, 0)", 10).due("peak(0, 5, 9)", 10);
        Doc.promise(38, ", and those behind each entry of the interval.");
        entries().due("peak(1, 10, 10)", 7).due("peak(1, 10, 19)", 7).due("peak(1, 10, 20)", 11)
                .due("peak(2, 10, 10)", 4).due("peak(2, 5, 9)", 0).due("peak(0, 30, 39)", 11)
                .due("peak(2, 30, 40)", 1);
        journal(300).due("peak(1, 0, " + MAX + ")", 1).due("peak(1, 1, " + MAX + ")", 0);
        Run same = Run.of("blocks 9;pool a 9 0").does("transfer(0, 1, 7, 0)", "transfer(1, 0, 7, 0)");
        same.due("peak(1, 0, 0)", 7).does("corrupt(0, 1)", "transfer(1, 0, 1, 0)", "advance(1)");
        same.due("peak(1, 1, 1)", -1).due("peak(0, 0, 0)", 10);
        Doc.promise(38, NO_POOL);
        refusedWith(entries(), "peak(#, 0, 0)", outside(3), INDEX);
        Doc.promise(38, INTERVAL);
        intervals("peak(0, #)");
    }

    private static void flow() {
        Doc.promise(39, "Returns how many blocks went from one pool to another one by the entries of an"
                + " interval.");
        entries().still("flow(0, 1, 0, 40)", 11).still("flow(1, 2, 0, 40)", 4);
        Doc.promise(39, "Returns the sum.");
        Run run = entries().due("flow(0, 1, 0, 9)", 6).due("flow(0, 1, 1, 10)", 5);
        run.due("flow(0, 1, 11, 40)", 0);
        run.due("flow(0, 1, 0, 0)", 6).due("flow(2, 1, 20, 20)", 4).due("flow(0, 2, 40, 40)", 1);
        run.due("flow(2, 1, 0, 19)", 0).due("flow(2, 1, 21, 40)", 0).due("flow(1, 1, 0, 40)", 0);
        run.due("flow(2, 0, 0, " + MAX + ")", 0);
        Run.fresh().due("flow(0, 0, 0, 0)", 0);
        journal(300).due("flow(0, 1, 0, " + MAX + ")", 150).due("flow(1, 0, 0, 0)", 150);
        Doc.promise(39, ONE_POOL_MISSING);
        refusedWith(entries(), "flow(#, 0, 0, 0)", outside(3), INDEX);
        refusedWith(entries(), "flow(0, #, 0, 0)", outside(3), INDEX);
        Doc.promise(39, INTERVAL);
        intervals("flow(0, 1, #)");
    }

    private static void reasonTotal() {
        Doc.promise(40, "Returns how many blocks were transferred with a reason in an interval");
        entries().still("reasonTotal(4, 0, 40)", 5).still("reasonTotal(3, 10, 10)", 4);
        Doc.promise(40, "; reversals count with a minus sign");
        entries().due("reasonTotal(3, 0, 20)", 0).due("reasonTotal(3, 20, 20)", -4)
                .due("reasonTotal(3, 0, 40)", 2).due("reasonTotal(3, 11, 29)", -4);
        Doc.promise(40, ", adjustments do not count.");
        entries().due("reasonTotal(0, 0, 40)", 6).due("reasonTotal(0, 40, 40)", 0);
        Doc.promise(40, "`reason`: 0 to 9");
        pools().does("transfer(0, 1, 1, 9)").due("reasonTotal(0, 0, 0)", 5).due("reasonTotal(9, 0, 0)", 1)
                .due("reasonTotal(8, 0, 0)", 0);
        Doc.promise(40, "Returns the sum.");
        entries().due("reasonTotal(3, 11, 19)", 0).due("reasonTotal(3, 30, 30)", 2)
                .due("reasonTotal(3, 31, " + MAX + ")", 0).due("reasonTotal(0, 0, 0)", 6);
        journal(300).due("reasonTotal(0, 0, " + MAX + ")", 300);
        Doc.promise(40, REASON + ", or first is negative or greater than last");
        refusedWith(entries(), "reasonTotal(#, 0, 0)", outside(0, 9), ARGUMENT);
        intervals("reasonTotal(0, #)");
    }

    private static void busiest() {
        Doc.promise(41, "Finds the pool with the most blocks that came in or went out by the entries of"
                + " an interval.");
        entries().still("busiest(0, 40)", 1).still("busiest(10, 10)", 1);
        Run.of("blocks 9;pool a 9 0;pool b 9 0").does("transfer(0, 2, 3, 0)", "transfer(2, 1, 2, 0)")
                .due("busiest(0, 0)", 2);
        Doc.promise(41, "Returns the pool, the smallest of several");
        entries().due("busiest(20, 20)", 1).due("busiest(0, 0)", 0).due("busiest(40, 40)", 0)
                .due("busiest(30, 30)", 0);
        journal(300).due("busiest(0, " + MAX + ")", 0);
        Run.of(manyPools(7)).does("transfer(0, 7, 1, 0)", "transfer(7, 6, 1, 0)").due("busiest(0, 0)", 7);
        Doc.promise(41, "; NONE if there are no entries in the interval.");
        entries().still("busiest(11, 19)", NONE).still("busiest(1, 9)", NONE)
                .still("busiest(41, " + MAX + ")", NONE).due("busiest(9, 10)", 1).due("busiest(40, 41)", 0);
        Run.fresh().still("busiest(0, " + MAX + ")", NONE);
        Doc.promise(41, INTERVAL);
        for (int[] interval : WRONG_INTERVALS) {
            entries().still("busiest(" + interval[0] + ", " + interval[1] + ")", ARGUMENT);
        }
        entries().due("busiest(0, 0)", 0).due("busiest(7, 7)", NONE).due("busiest(0, " + MAX + ")", 1);
    }
}
