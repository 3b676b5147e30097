/** Promises 50 to 55: errors of the map, adjustments, checkpoints and audits. */
public final class AuditTest {
    public static void main(String[] args) {
        promise50Corrupt();
        promise51Mismatches();
        promise52Reconcile();
        promise52FullJournal();
        promise53Checkpoint();
        promises54And55Audits();
        promises54And55WrongCheckpoints();
        Check.end("AuditTest");
    }

    private static StorageLedger pools() {
        return Check.ledger("blocks 12;pool a 3 0;pool b 9 0;pool c 9 0;grant a 3;grant b 4");
    }

    private static void promise50Corrupt() {
        StorageLedger x = pools();
        x.advance(5);
        Check.same("corrupt", x.corrupt(0, 3), 1);
        Check.same("map", Check.map(x), "311222200000");
        Check.same("since", x.since(0), 5);
        Check.same("beyond the quota", x.corrupt(11, 1) + x.corrupt(10, 1), 0);
        Check.same("the same pool", x.corrupt(1, 1), 1);
        Check.same("since now even so", x.since(1), 5);
        Check.same("no entry", x.entryCount(), 2);
        Check.index("block -1", () -> x.corrupt(-1, 0));
        Check.index("block 12", () -> x.corrupt(12, 0));
        Check.index("pool -1", () -> x.corrupt(0, -1));
        Check.index("pool 4", () -> x.corrupt(0, 4));
        Check.same("map stays", Check.map(x), "311222200011");
    }

    private static void promise51Mismatches() {
        StorageLedger x = pools();
        Check.same("none", x.mismatches(), 0);
        x.corrupt(0, 3);
        Check.same("a and c", x.mismatches(), 2 + 8);
        x.corrupt(3, 1);
        Check.same("b and c", x.mismatches(), 4 + 8);
        x.corrupt(0, 2);
        Check.same("none again", x.mismatches(), 0);
        x.corrupt(11, 3);
        Check.same("free and c", x.mismatches(), 1 + 8);
        x.transferBlock(11, 0, 1);
        Check.same("a transfer does not mend it", x.mismatches(), 1 + 8);
    }

    private static void promise52Reconcile() {
        StorageLedger x = pools();
        Check.same("nothing to do", x.reconcile(), 0);
        x.advance(4);
        // a loses three, b loses one, free gains one, c gains three.
        x.corrupt(0, 0);
        x.corrupt(1, 3);
        x.corrupt(2, 3);
        x.corrupt(3, 3);
        Check.same("reconcile", x.reconcile(), 3);
        Check.same("first", Check.entry(x, 2), "1 0 1 0 4 2 -1");
        Check.same("second", Check.entry(x, 3), "1 3 2 0 4 2 -1");
        Check.same("third", Check.entry(x, 4), "2 3 1 0 4 2 -1");
        Check.same("no mismatches", x.mismatches(), 0);
        Check.same("the map stays", Check.map(x), "033322200000");
        Check.same("since stays", x.since(4), 0);
        Check.same("again", x.reconcile(), 0);
        Check.same("no blocks", x.entryBlock(3, 0), StorageLedger.NONE);
        x.corrupt(0, 2);
        x.transfer(1, 3, 1, 1);
        Check.same("nothing in a", x.entryCount(), 5);
        StorageLedger y = pools();
        y.corrupt(11, 3);
        y.transfer(3, 0, 1, 1);
        Check.same("booked below 0", y.booked(3), -1);
        Check.same("reconciled by one", y.reconcile(), 1);
        Check.same("from free, which has more", Check.entry(y, 3), "0 3 1 0 0 2 -1");
    }

    private static void promise52FullJournal() {
        StorageLedger x = pools();
        for (int entry = 2; entry < 298; entry++) {
            x.transfer(entry % 2 == 0 ? 0 : 3, entry % 2 == 0 ? 3 : 0, 1, 0);
        }
        x.corrupt(0, 0);
        x.corrupt(1, 3);
        x.corrupt(3, 3);
        Check.same("three would be needed", x.reconcile(), StorageLedger.FULL);
        Check.same("nothing changes", x.entryCount(), 298);
        Check.same("mismatches stay", x.mismatches(), 15);
        x.corrupt(0, 1);
        Check.same("two would do", x.reconcile(), 2);
        Check.same("300 entries", x.entryCount(), 300);
        Check.same("nothing to do in a full journal", x.reconcile(), 0);
    }

    private static void promise53Checkpoint() {
        StorageLedger x = pools();
        for (int made = 0; made < 10; made++) {
            Check.same("checkpoint", x.checkpoint(), made);
        }
        Check.same("the eleventh", x.checkpoint(), StorageLedger.FULL);
        x.corrupt(0, 3);
        Check.same("still ten", x.checkpoint(), StorageLedger.FULL);
        Check.same("the last one stays as it was", x.auditSet(0, 9), 0);
        Check.argument("no tenth index", () -> x.auditSet(0, 10));
    }

    private static void promises54And55Audits() {
        StorageLedger x = pools();
        x.corrupt(11, 3);
        x.checkpoint();
        x.transfer(2, 3, 2, 1);
        x.checkpoint();
        x.corrupt(0, 3);
        x.corrupt(1, 3);
        x.transfer(0, 2, 1, 1);
        x.checkpoint();
        x.reconcile();
        x.checkpoint();
        Check.same("transfers are accounted for", x.auditSet(0, 1), 0);
        Check.same("errors are not", x.auditSet(1, 2), 2 + 8);
        Check.same("a lost two", x.auditOf(1, 2, 1), -2);
        Check.same("c gained two", x.auditOf(1, 2, 3), 2);
        Check.same("b changed by entries alone", x.auditOf(1, 2, 2), 0);
        Check.same("the whole interval", x.auditOf(0, 2, 3), 2);
        Check.same("adjustments are entries", x.auditSet(2, 3), 1 + 2 + 8);
        Check.same("free by the adjustments", x.auditOf(2, 3, 0), 1);
        Check.same("c by the adjustments", x.auditOf(2, 3, 3), -3);
        Check.same("all", x.auditSet(0, 3), 1 + 8);
        Check.same("the same checkpoint", x.auditSet(2, 2), 0);
        Check.same("of one pool", x.auditOf(2, 2, 3), 0);
    }

    private static void promises54And55WrongCheckpoints() {
        StorageLedger x = pools();
        Check.argument("no checkpoint", () -> x.auditSet(0, 0));
        x.checkpoint();
        x.checkpoint();
        int[][] wrong = {{-1, 1}, {0, 2}, {1, 0}, {2, 2}, {-1, -1}, {Integer.MIN_VALUE, 0}};
        for (int[] pair : wrong) {
            Check.argument("auditSet", () -> x.auditSet(pair[0], pair[1]));
            Check.argument("auditOf", () -> x.auditOf(pair[0], pair[1], 0));
            Check.index("auditOf, the pool first", () -> x.auditOf(pair[0], pair[1], 4));
        }
        Check.index("pool -1", () -> x.auditOf(0, 1, -1));
        Check.index("pool 4", () -> x.auditOf(0, 1, 4));
    }
}
