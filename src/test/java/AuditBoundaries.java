/** Promises 50 to 57: errors of the map, adjustments, checkpoints, audits and snapshots. */
final class AuditBoundaries extends Boundaries {
    private static final String NO_CHECKPOINTS = "Throws `IllegalArgumentException` if there are no such"
            + " checkpoints, or first is greater than second";

    private AuditBoundaries() {
    }

    static void test() {
        corrupt();
        mismatches();
        reconcile();
        reconcileWhenFull();
        checkpoint();
        auditSet();
        auditOf();
        saveSnapshot();
        snapshotOfAll();
        restoreSnapshot();
    }

    private static void corrupt() {
        Doc.promise(50, "Changes the map without an entry, as an error would: the block is in this pool"
                + " since now.");
        Run run = pools().does("advance(5)").due("corrupt(0, 2)", 1).map("2112200000").due("since(0)", 5);
        run.due("entryCount()", 2).due("booked(1)", 3).due("balance(1)", 2);
        // Neither quotas nor reservations keep an error from happening.
        pools().does("reserve(1, 2, 3, 9)", "corrupt(9, 1)", "corrupt(8, 1)", "corrupt(0, 0)")
                .due("room(1)", 0).due("balance(1)", 4).due("available(1)", 1);
        pools().does("advance(5)").due("corrupt(9, 0)", 0).due("since(9)", 5).due("since(8)", 0);
        Doc.promise(50, "Returns the pool in which it was.");
        pools().due("corrupt(9, 1)", 0).due("corrupt(9, 2)", 1).due("corrupt(9, 2)", 2);
        Doc.promise(50, "Throws `IndexOutOfBoundsException` if there is no such block or pool");
        refusedWith(pools(), "corrupt(#, 0)", outside(10), INDEX);
        refusedWith(pools(), "corrupt(0, #)", outside(3), INDEX);
        Run.of(manyPools(7)).due("corrupt(7, 7)", 0).still("corrupt(7, 8)", INDEX)
                .still("corrupt(8, 7)", INDEX);
    }

    private static void mismatches() {
        Doc.promise(51, "Finds the pools whose balance by the journal is not their number of blocks on"
                + " the map.");
        pools().still("mismatches()", 0).does("transfer(1, 2, 2, 0)").due("mismatches()", 0)
                .does("corrupt(9, 2)").still("mismatches()", 1 + 4).does("corrupt(9, 0)")
                .due("mismatches()", 0);
        Doc.promise(51, "Returns the sum of 2^k over these pools k.");
        Run run = Run.of(manyPools(7)).due("mismatches()", 0);
        int due = 1;
        for (int pool = 1; pool <= 7; pool++) {
            due += 1 << pool;
            run.does("corrupt(" + pool + ", " + pool + ")").due("mismatches()", due);
        }
        run.does("corrupt(7, 0)").due("mismatches()", 127);
        Run.of("blocks 8;pool a 8 0").does("swap(0, 7)").due("mismatches()", 0);
    }

    private static void reconcile() {
        Doc.promise(52, "Makes the journal agree with the map by adjustments: as long as there are"
                + " mismatches, an adjustment with the reason 0 goes from the smallest pool that has"
                + " more by the journal than on the map to the smallest pool that has less, with as"
                + " many blocks as possible.");
        Run run = Run.of("blocks 12;pool a 9 0;pool b 9 0;pool c 9 0;grant a 3;grant b 4").does(
                "advance(4)", "corrupt(0, 0)", "corrupt(1, 3)", "corrupt(2, 3)", "corrupt(3, 3)");
        // Now a has lost three and b one, free has gained one and c three.
        run.due("reconcile()", 3).entry(2, "1 0 1 0 4 2 -1").entry(3, "1 3 2 0 4 2 -1")
                .entry(4, "2 3 1 0 4 2 -1").due("mismatches()", 0).map("033322200000").due("since(4)", 0);
        Run below = pools().does("transfer(1, 0, 3, 0)", "corrupt(0, 1)", "transfer(1, 0, 1, 0)");
        below.due("booked(1)", -1).due("reconcile()", 1).entry(4, "0 1 1 0 0 2 -1").due("booked(1)", 0);
        Doc.promise(52, "Returns the number of adjustments");
        pools().still("reconcile()", 0).does("corrupt(9, 1)").due("reconcile()", 1).still("reconcile()", 0);
        Run most = Run.of(manyPools(7));
        for (int pool = 1; pool <= 7; pool++) {
            most.does("corrupt(" + pool + ", " + pool + ")");
        }
        most.due("reconcile()", 7).entry(0, "0 1 1 0 0 2 -1").entry(6, "0 7 1 0 0 2 -1")
                .due("mismatches()", 0);
    }

    private static void reconcileWhenFull() {
        Doc.promise(52, "; FULL if there would be more than 300 entries, and then nothing changes.");
        journal(299).does("corrupt(3, 1)").due("reconcile()", 1).due("entryCount()", 300);
        journal(300).does("corrupt(3, 1)").still("reconcile()", FULL).does("corrupt(3, 0)")
                .still("reconcile()", 0);
        // Two adjustments are needed, and there is a place for one of them, or for both.
        for (int entries = 298; entries <= 299; entries++) {
            Run run = Run.of("blocks 4;pool a4 1;pool b4 1");
            for (int entry = 0; entry < entries; entry++) {
                run.does(entry % 2 == 0 ? "transfer(0, 1, 1, 0)" : "transfer(1, 0, 1, 0)");
            }
            run.does("corrupt(3, 1)", "corrupt(2, 2)");
            if (entries == 298) {
                run.due("reconcile()", 2).due("entryCount()", 300).due("mismatches()", 0);
            } else {
                run.still("reconcile()", FULL).due("entryCount()", 299).due("mismatches()", 7);
            }
        }
    }

    private static void checkpoint() {
        Doc.promise(53, "Makes a checkpoint: the numbers of blocks of all pools on the map, and the"
                + " number of entries.");
        pools().does("checkpoint()", "transfer(0, 1, 1, 0)", "corrupt(9, 2)", "checkpoint()")
                .due("auditOf(0, 1, 0)", -1).due("auditOf(0, 1, 1)", 0).due("auditOf(0, 1, 2)", 1);
        Run.of(manyPools(7)).does("checkpoint()", "transfer(0, 7, 1, 0)", "checkpoint()")
                .due("auditSet(0, 1)", 0).due("auditOf(0, 1, 7)", 0).due("auditOf(0, 1, 0)", 0);
        Doc.promise(53, "Returns its number");
        Run run = pools();
        for (int made = 0; made < 9; made++) {
            run.due("checkpoint()", made);
        }
        Doc.promise(53, "; FULL if there are 10 checkpoints.");
        run.due("checkpoint()", 9).still("checkpoint()", FULL).does("corrupt(0, 2)");
        run.still("checkpoint()", FULL).due("auditSet(0, 9)", 0).still("auditSet(0, 10)", ARGUMENT);
    }

    /** Between the checkpoints: an entry; two errors and an entry; the adjustments of the errors. */
    private static Run audited() {
        return pools().does("corrupt(9, 1)", "checkpoint()", "transfer(2, 0, 1, 0)", "checkpoint()",
                "corrupt(0, 2)", "corrupt(1, 2)", "transfer(0, 2, 1, 0)", "checkpoint()", "reconcile()",
                "checkpoint()");
    }

    private static void auditSet() {
        Doc.promise(54, "Audits the interval between two checkpoints.");
        audited().still("auditSet(0, 1)", 0).still("auditSet(1, 2)", 2 + 4);
        Doc.promise(54, "Returns the sum of 2^k over the pools k for which the difference is not 0"
                + " (auditOf).");
        Run run = audited();
        for (int first = 0; first < 4; first++) {
            for (int second = first; second < 4; second++) {
                int[][] due = {{0, 0, 6, 3}, {0, 0, 6, 3}, {0, 0, 0, 7}, {0, 0, 0, 0}};
                run.due("auditSet(" + first + ", " + second + ")", due[first][second]);
            }
        }
        Run all = Run.of(manyPools(7)).does("checkpoint()");
        for (int pool = 1; pool <= 7; pool++) {
            all.does("corrupt(" + pool + ", " + pool + ")");
        }
        all.does("checkpoint()").due("auditSet(0, 1)", 255);
        Doc.promise(54, NO_CHECKPOINTS);
        wrongCheckpoints("auditSet(#)");
    }

    private static void auditOf() {
        Doc.promise(55, "Audits a pool between two checkpoints.");
        audited().still("auditOf(1, 2, 1)", -2).still("auditOf(1, 2, 2)", 2).still("auditOf(1, 2, 0)", 0);
        Doc.promise(55, "Returns by how much its number of blocks on the map has changed more than by"
                + " the entries between the two checkpoints.");
        Run run = audited().due("auditOf(0, 1, 0)", 0).due("auditOf(0, 1, 2)", 0).due("auditOf(0, 2, 1)", -2);
        // Adjustments are entries: the map stays, and the journal does not.
        run.due("auditOf(2, 3, 0)", 1).due("auditOf(2, 3, 1)", 1).due("auditOf(2, 3, 2)", -2);
        run.due("auditOf(0, 3, 0)", 1).due("auditOf(0, 3, 1)", -1).due("auditOf(0, 3, 2)", 0);
        // The same checkpoint twice: nothing is between.
        run.due("auditOf(2, 2, 1)", 0).due("auditOf(0, 0, 0)", 0).due("auditSet(3, 3)", 0);
        // What comes behind the second checkpoint does not count.
        run.does("corrupt(5, 1)", "transfer(0, 2, 1, 0)").due("auditOf(1, 2, 1)", -2)
                .due("auditOf(1, 2, 2)", 2);
        Doc.promise(55, NO_POOL);
        refusedWith(audited(), "auditOf(0, 1, #)", outside(3), INDEX);
        refusedWith(pools(), "auditOf(0, 0, #)", outside(3), INDEX);
        Doc.promise(55, NO_CHECKPOINTS);
        wrongCheckpoints("auditOf(#, 0)");
    }

    private static void wrongCheckpoints(String call) {
        pools().still(call.replace("#", "0, 0"), ARGUMENT);
        Run two = pools().does("checkpoint()", "checkpoint()");
        for (String pair : new String[] {"0, 0", "0, 1", "1, 1"}) {
            two.due(call.replace("#", pair), 0);
        }
        for (String pair : new String[] {"-1, 1", "-1, -1", "0, 2", "1, 2", "2, 2", "1, 0", "0, -1",
            MIN + ", " + MAX, MAX + ", " + MAX, MIN + ", 0", "0, " + MIN}) {
            two.still(call.replace("#", pair), ARGUMENT);
        }
        Run ten = pools().times(10, "checkpoint()").due(call.replace("#", "9, 9"), 0);
        ten.still(call.replace("#", "9, 10"), ARGUMENT);
    }

    /** Something of everything that a ledger has. */
    private static Run rich() {
        return Run.of("blocks 10;pool a 8 100;pool b 5 50;grant a 5;pick highest").does(
                "transfer(1, 2, 2, 3)", "reserve(0, 2, 2, 9)", "advance(4)", "checkpoint()",
                "corrupt(9, 1)", "checkpoint()");
    }

    private static void saveSnapshot() {
        Doc.promise(56, "Copies the ledger to a snapshot.");
        Run run = rich().does("saveSnapshot(0)", "reverse(1)", "commit(0, 5)", "advance(3)", "setPick(2)",
                "swap(0, 9)", "checkpoint()", "reconcile()");
        run.unlike(rich().does("saveSnapshot(0)"));
        run.does("restoreSnapshot(0)").sameAs(rich().does("saveSnapshot(0)"));
        // A snapshot that is saved again holds the later ledger.
        rich().does("saveSnapshot(0)", "advance(1)", "saveSnapshot(0)", "advance(1)")
                .due("restoreSnapshot(0)", 5);
        Doc.promise(56, "`slot`: 0 or 1");
        rich().does("saveSnapshot(0)", "advance(6)", "saveSnapshot(1)", "advance(1)")
                .due("restoreSnapshot(0)", 4).due("now()", 4).due("restoreSnapshot(1)", 10).due("now()", 10);
        Doc.promise(56, "Returns the time.");
        Run.fresh().due("saveSnapshot(0)", 0).does("advance(1000)").due("saveSnapshot(1)", 1000)
                .due("now()", 1000);
        Doc.promise(56, "Throws `IllegalArgumentException` if slot is out of range");
        refusedWith(rich().does("saveSnapshot(1)"), "saveSnapshot(#)", outside(0, 1), ARGUMENT);
    }

    private static void snapshotOfAll() {
        Doc.promise(56, "Copies the ledger to a snapshot.");
        // 80 blocks, 8 pools, 300 entries, 60 reservations and 10 checkpoints.
        Run run = Run.of(manyPools(7).replace("blocks 8", "blocks 80").replace("g 1 0", "gzzzzz 80 1"));
        for (int entry = 0; entry < 298; entry++) {
            run.does(entry % 2 == 0 ? "transfer(0, 7, 1, 0)" : "transfer(7, 0, 1, 0)");
        }
        run.does("transfer(0, 7, 3, 7)", "transferBlock(79, 7, 2)").times(60, "reserve(0, 7, 1, 9)");
        run.times(9, "checkpoint()").does("corrupt(78, 7)", "checkpoint()", "saveSnapshot(1)");
        run.loads("blocks 1", 1).does("restoreSnapshot(1)");
        run.entry(299, "0 7 1 2 0 0 -1").blocks(299, "79").blocks(298, "0 1 2");
        run.reservation(59, "0 7 1 9 0").due("auditOf(8, 9, 7)", 1).due("nameByte(7, 5)", (int) 'z');
    }

    private static void restoreSnapshot() {
        Doc.promise(57, "Replaces the ledger by a copy of a snapshot, which stays.");
        Run run = rich().does("saveSnapshot(1)", "restoreSnapshot(1)", "advance(3)", "corrupt(0, 0)",
                "transfer(0, 2, 1, 0)").batches("wait 9", 1);
        run.does("restoreSnapshot(1)").sameAs(rich().does("saveSnapshot(1)"));
        run.loads("blocks 2", 1).does("restoreSnapshot(1)").sameAs(rich().does("saveSnapshot(1)"));
        Doc.promise(57, "`slot`: 0 or 1");
        rich().does("saveSnapshot(0)", "saveSnapshot(1)").due("restoreSnapshot(0)", 4)
                .due("restoreSnapshot(1)", 4);
        Doc.promise(57, "Returns the time");
        Run.fresh().does("saveSnapshot(0)", "advance(5)", "saveSnapshot(1)").due("restoreSnapshot(0)", 0)
                .due("restoreSnapshot(1)", 5);
        Doc.promise(57, "; NONE if nothing was saved there.");
        rich().still("restoreSnapshot(0)", NONE).still("restoreSnapshot(1)", NONE)
                .does("saveSnapshot(0)").still("restoreSnapshot(1)", NONE).due("restoreSnapshot(0)", 4);
        rich().does("saveSnapshot(1)").still("restoreSnapshot(0)", NONE).due("restoreSnapshot(1)", 4);
        Doc.promise(57, "Throws `IllegalArgumentException` if slot is out of range");
        refusedWith(rich().does("saveSnapshot(1)", "advance(1)"), "restoreSnapshot(#)", outside(0, 1),
                ARGUMENT);
        refusedWith(Run.fresh(), "restoreSnapshot(#)", outside(0, 1), ARGUMENT);
    }
}
