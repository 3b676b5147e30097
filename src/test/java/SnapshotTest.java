/** Promises 56 and 57: snapshots. */
public final class SnapshotTest {
    public static void main(String[] args) {
        promise56SaveSnapshot();
        promise57RestoreSnapshot();
        promise57TheSnapshotStays();
        promises56And57Slots();
        Check.end("SnapshotTest");
    }

    /** Something of every part of a ledger. */
    private static StorageLedger rich() {
        StorageLedger x = Check.ledger("blocks 10;pool a 8 100;pool b 5 50;grant a 5;pick highest");
        x.transfer(1, 2, 2, 3);
        x.reserve(0, 2, 2, 9);
        x.advance(4);
        x.checkpoint();
        x.corrupt(9, 1);
        x.checkpoint();
        return x;
    }

    private static String portrait(StorageLedger x) {
        StringBuilder all = new StringBuilder(Check.map(x));
        all.append(" time ").append(x.now()).append(" since ");
        for (int block = 0; block < x.blockCount(); block++) {
            all.append(x.since(block)).append(' ');
        }
        for (int entry = 0; entry < x.entryCount(); entry++) {
            all.append(" entry ").append(Check.entry(x, entry));
            all.append(" block ").append(x.entryBlock(entry, 0));
        }
        for (int reservation = 0; reservation < x.reservationCount(); reservation++) {
            all.append(" reservation ").append(Check.reservation(x, reservation));
        }
        for (int pool = 0; pool < x.poolCount(); pool++) {
            all.append(" pool ").append((char) x.nameByte(pool, 0)).append(x.nameByte(pool, 1));
            all.append(' ').append(x.rent(pool)).append(' ').append(x.room(pool));
            all.append(' ').append(x.rentAhead(pool, 10));
        }
        all.append(" audit ").append(Check.answer(() -> x.auditSet(0, 1)));
        int way = x.setPick(0);
        x.setPick(way);
        return all.append(" way ").append(way).toString();
    }

    private static void change(StorageLedger x) {
        x.reverse(1);
        x.commit(0, 5);
        x.advance(3);
        x.setPick(2);
        x.swap(0, 9);
        x.checkpoint();
    }

    private static void promise56SaveSnapshot() {
        StorageLedger x = rich();
        String before = portrait(x);
        Check.same("the time", x.saveSnapshot(0), 4);
        Check.same("nothing changes", portrait(x), before);
        Check.argument("slot -1", () -> x.saveSnapshot(-1));
        Check.argument("slot 2", () -> x.saveSnapshot(2));
    }

    private static void promise57RestoreSnapshot() {
        StorageLedger x = rich();
        String before = portrait(x);
        x.saveSnapshot(1);
        change(x);
        Check.same("it has changed", portrait(x).equals(before), false);
        Check.type(x, "a");
        Check.same("the time", x.restoreSnapshot(1), 4);
        Check.same("the buffer is not in it", x.poolNamed(), 1);
        Check.same("all is as before", portrait(x), before);
        Check.load(x, "blocks 4;pool z 4 7");
        Check.same("the time, after a load", x.restoreSnapshot(1), 4);
        Check.same("all is as before, after a load", portrait(x), before);
        Check.argument("slot -1", () -> x.restoreSnapshot(-1));
        Check.argument("slot 2", () -> x.restoreSnapshot(2));
    }

    private static void promise57TheSnapshotStays() {
        StorageLedger x = rich();
        x.saveSnapshot(0);
        x.restoreSnapshot(0);
        change(x);
        Check.batch(x, "wait 9");
        Check.same("once more", x.restoreSnapshot(0), 4);
        Check.same("as it was saved", portrait(x), portrait(rich()));
    }

    private static void promises56And57Slots() {
        StorageLedger x = rich();
        x.saveSnapshot(0);
        Check.same("nothing in the other slot", x.restoreSnapshot(1), StorageLedger.NONE);
        x.advance(6);
        x.saveSnapshot(1);
        x.advance(1);
        Check.same("the first", x.restoreSnapshot(0), 4);
        Check.same("its time", x.now(), 4);
        Check.same("the second", x.restoreSnapshot(1), 10);
        Check.same("its reservation expired", x.reservationValue(0, 4), 3);
        x.advance(2);
        x.saveSnapshot(0);
        x.advance(1);
        Check.same("saved anew", x.restoreSnapshot(0), 12);
    }
}
