/** Everything as full as the document lets it be: nothing may go wrong at the ends of the rows. */
public final class LimitsTest {
    private static final int FULL = StorageLedger.FULL;

    public static void main(String[] args) {
        changesNothingMore();
        answersOnPoolsAndBlocks();
        answersOnTheJournal();
        answersOnReservationsAndRents();
        picksInEachWay();
        picksTheOldestOfAsManyTimesAsBlocks();
        copiesAll();
        Check.end("LimitsTest");
    }

    /** 200 blocks, 8 pools, 300 entries, 60 pending reservations and 10 checkpoints; 470 calls. */
    private static StorageLedger full() {
        StorageLedger x = Check.ledger("blocks 200;pool a200 1;pool b200 1;pool c200 1;pool d200 1"
                + ";pool e200 1;pool f200 1;pool gggggg200 1");
        x.transfer(0, 7, 100, 9);
        for (int entry = 1; entry < 300; entry++) {
            x.transfer(entry % 2 == 0 ? 0 : 7, entry % 2 == 0 ? 7 : 0, 1, 9);
        }
        for (int reservation = 0; reservation < 60; reservation++) {
            x.reserve(7, 0, 1, 1000);
        }
        for (int made = 0; made < 10; made++) {
            x.checkpoint();
        }
        return x;
    }

    private static void changesNothingMore() {
        StorageLedger x = full();
        Check.same("entries", x.entryCount(), 300);
        Check.same("reservations", x.reservationCount(), 60);
        Check.same("pools", x.poolCount(), 8);
        Check.same("transfer", x.transfer(0, 7, 1, 0), FULL);
        Check.same("transferBlock", x.transferBlock(0, 7, 0), FULL);
        Check.same("reverse", x.reverse(299), FULL);
        Check.same("reserve", x.reserve(0, 7, 1, 1), FULL);
        Check.same("commit", x.commit(59, 0), FULL);
        Check.same("checkpoint", x.checkpoint(), FULL);
        Check.same("reconcile", x.reconcile(), 0);
        Check.same("corrupt", x.corrupt(199, 0), 7 * x.poolOf(0));
        Check.same("mismatches", x.mismatches(), 0);
        Check.same("swap", x.swap(0, 199), false);
        Check.same("release", x.release(59), 59);
        Check.same("extend", x.extend(58, 1000), 2000);
        Check.same("advance", x.advance(1000), 58);
    }

    private static void answersOnPoolsAndBlocks() {
        StorageLedger x = full();
        Check.same("last letter", x.nameByte(7, 5), (int) 'g');
        Check.same("behind the name", x.nameByte(7, 6), -1);
        Check.same("name", Check.named(x, "gggggg"), 7);
        Check.same("balance", x.balance(7), 99);
        Check.same("available", x.available(7), 39);
        Check.same("room", x.room(7), 101);
        Check.same("room of free", x.room(0), 39);
        Check.same("largestTransfer", x.largestTransfer(7, 0), 39);
        Check.same("blockAt", x.blockAt(0, 100), 199);
        Check.same("blockAt behind", x.blockAt(0, 101), -1);
        Check.same("since", x.since(199), 0);
        Check.same("runs", x.runCount(0), 2);
        Check.same("longest", x.longestRun(0), 100);
        Check.same("fragmentation", x.fragmentation(0), 1f - 100f / 101f);
        Check.same("bestSwap", x.bestSwap(0), 99);
        Check.same("bestSwap of the last", x.bestSwap(7), -1);
        Check.same("bestSwap of an empty one", x.bestSwap(6), -1);
    }

    private static void answersOnTheJournal() {
        StorageLedger x = full();
        Check.same("booked", x.booked(7), 99);
        Check.same("bookedAt", x.bookedAt(7, Integer.MAX_VALUE), 99);
        Check.same("peak", x.peak(7, 0, Integer.MAX_VALUE), 100);
        Check.same("flow", x.flow(0, 7, 0, Integer.MAX_VALUE), 249);
        Check.same("flow back", x.flow(7, 0, 0, Integer.MAX_VALUE), 150);
        Check.same("reasonTotal", x.reasonTotal(9, 0, Integer.MAX_VALUE), 399);
        Check.same("busiest", x.busiest(0, Integer.MAX_VALUE), 0);
        Check.same("last entry", Check.entry(x, 299), "7 0 1 9 0 0 -1");
        Check.same("its block", x.entryBlock(299, 0), 0);
        Check.same("last block of the first", x.entryBlock(0, 99), 99);
        Check.same("auditSet", x.auditSet(0, 9), 0);
        Check.same("auditOf", x.auditOf(9, 9, 7), 0);
    }

    private static void answersOnReservationsAndRents() {
        StorageLedger x = full();
        Check.same("last reservation", Check.reservation(x, 59), "7 0 1 1000 0");
        Check.same("reservedFrom", x.reservedFrom(7), 60);
        Check.same("nextExpiry", x.nextExpiry(), 0);
        Check.same("whenAvailable", x.whenAvailable(7, 99), 1000);
        Check.same("never available", x.whenAvailable(7, 100), -1);
        Check.same("rentAhead", x.rentAhead(7, 1000), 0f + 1 / 100f * (99 * 1000));
        Check.same("advance", x.advance(1000), 60);
        Check.same("rent", x.rent(7), 0f + 1 / 100f * (99 * 1000));
        Check.same("totalRent", x.totalRent(), x.rent(7));
        Check.same("none pending", x.nextExpiry(), -1);
        Check.same("all available", x.available(7), 99);
    }

    private static void picksInEachWay() {
        StorageLedger x = full();
        int[] last = {198, 199, 198, 199};
        for (int way = 0; way < 4; way++) {
            x.setPick(way);
            Check.same("all but one of free", x.wouldPick(0, 100, 99), last[way]);
            Check.same("all of free", x.wouldPick(0, 101, 100), 199);
            Check.same("all of the last pool", x.wouldPick(7, 99, 98), 99);
            Check.same("more than there are", x.wouldPick(7, 100, 0), -1);
        }
    }

    private static void picksTheOldestOfAsManyTimesAsBlocks() {
        StorageLedger x = Check.ledger("blocks 200;pick oldest");
        for (int block = 198; block >= 0; block--) {
            x.advance(1);
            x.corrupt(block, 0);
        }
        Check.same("the oldest", x.wouldPick(0, 1, 0), 199);
        Check.same("all but the youngest", x.wouldPick(0, 199, 0), 1);
        Check.same("all", x.wouldPick(0, 200, 0), 0);
        Check.same("the last of all", x.wouldPick(0, 200, 199), 199);
    }

    private static void copiesAll() {
        StorageLedger x = full();
        x.saveSnapshot(0);
        Check.same("a batch", Check.batch(x, "wait 1000"), 1);
        Check.same("restore", x.restoreSnapshot(0), 0);
        Check.same("entries", x.entryCount(), 300);
        Check.same("last entry", x.entryValue(299, 0), 7);
        Check.same("last block", x.entryBlock(0, 99), 99);
        Check.same("last reservation", x.reservationValue(59, 4), 0);
        Check.same("last checkpoints", x.auditSet(8, 9), 0);
        Check.same("last letter", x.nameByte(7, 5), (int) 'g');
        Check.same("map", x.poolOf(99), 7);
    }
}
