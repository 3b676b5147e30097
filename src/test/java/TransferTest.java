/** Promises 9 to 14 and 24: time, ways to pick, transfers and reversals. */
public final class TransferTest {
    private static final int FULL = StorageLedger.FULL;
    private static final int NOT_ENOUGH = StorageLedger.NOT_ENOUGH;
    private static final int NO_ROOM = StorageLedger.NO_ROOM;
    private static final int WRONG_STATE = StorageLedger.WRONG_STATE;
    private static final int MOVED = StorageLedger.MOVED;

    public static void main(String[] args) {
        promises9And10Time();
        promise10EndOfTime();
        promise10Expiry();
        promise11SetPick();
        promise12Transfer();
        promise12Errors();
        promise12Ways();
        promise12Exceptions();
        promise13TransferBlock();
        promise13Errors();
        promise14Reverse();
        promise14Errors();
        promise24LargestTransfer();
        promises12To16FullJournal();
        Check.end("TransferTest");
    }

    private static void promises9And10Time() {
        StorageLedger x = new StorageLedger();
        Check.same("advance", x.advance(1), 0);
        Check.same("now", x.now(), 1);
        Check.same("advance far", x.advance(1000), 0);
        Check.same("now later", x.now(), 1001);
        Check.argument("advance(0)", () -> x.advance(0));
        Check.argument("advance(1001)", () -> x.advance(1001));
        Check.argument("advance(-5)", () -> x.advance(-5));
        Check.same("time stays", x.now(), 1001);
    }

    /** Of no use within 512 calls, which do not get so far; but the document names the limit. */
    private static void promise10EndOfTime() {
        StorageLedger x = Check.ledger("blocks 9;pool a 9 100;grant a 1");
        for (int thousand = 1; thousand < 1000; thousand++) {
            x.advance(1000);
        }
        x.advance(999);
        float rent = x.rent(1);
        Check.same("beyond the last time", x.advance(2), FULL);
        Check.same("time stays", x.now(), 999999);
        Check.same("rent stays", x.rent(1), rent);
        Check.same("to the last time", x.advance(1), 0);
        Check.same("the last time", x.now(), 1000000);
        Check.same("at the end", x.advance(1), FULL);
    }

    private static void promise10Expiry() {
        StorageLedger x = Check.ledger("blocks 10;pool a 10 100");
        x.reserve(0, 1, 1, 5);
        x.reserve(0, 1, 1, 6);
        x.reserve(0, 1, 1, 6);
        x.reserve(0, 1, 1, 6);
        x.release(3);
        Check.same("nothing expires before", x.advance(4), 0);
        Check.same("expires at its time", x.advance(1), 1);
        Check.same("state of the expired one", x.reservationValue(0, 4), 3);
        Check.same("state of the next one", x.reservationValue(1, 4), 0);
        Check.same("expire late", x.advance(100), 2);
        Check.same("the released one stays released", x.reservationValue(3, 4), 2);
        Check.same("available again", x.available(0), 10);
        Check.same("room again", x.room(1), 10);
    }

    private static void promise11SetPick() {
        StorageLedger x = Check.ledger("blocks 5;pick fitting");
        Check.same("way of the text", x.setPick(1), 3);
        Check.same("highest before", x.setPick(2), 1);
        Check.same("oldest before", x.setPick(0), 2);
        Check.same("lowest before", x.setPick(3), 0);
        Check.argument("setPick(4)", () -> x.setPick(4));
        Check.argument("setPick(-1)", () -> x.setPick(-1));
        Check.same("way stays", x.setPick(3), 3);
    }

    private static void promise12Transfer() {
        StorageLedger x = Check.ledger("blocks 10;pool a 8 0;pool b 5 0;grant a 5");
        x.advance(7);
        Check.same("transfer", x.transfer(1, 2, 2, 9), 1);
        Check.same("map", Check.map(x), "2211100000");
        Check.same("since of the moved", x.since(1), 7);
        Check.same("since of the others", x.since(2), 0);
        Check.same("entry", Check.entry(x, 1), "1 2 2 9 7 0 -1");
        Check.same("next transfer", x.transfer(2, 0, 1, 0), 2);
        Check.same("map then", Check.map(x), "0211100000");
        Check.same("blocks of the entry", x.entryBlock(1, 0) * 10 + x.entryBlock(1, 1), 1);
    }

    private static void promise12Errors() {
        StorageLedger x = Check.ledger("blocks 10;pool a 4 0;pool b 9 0;grant a 4");
        Check.same("more than the pool has", x.transfer(1, 2, 5, 0), NOT_ENOUGH);
        Check.same("more than the room", x.transfer(0, 1, 1, 0), NO_ROOM);
        Check.same("not enough comes before no room", x.transfer(0, 1, 7, 0), NOT_ENOUGH);
        x.reserve(1, 2, 3, 10);
        Check.same("reserved blocks are not available", x.transfer(1, 0, 2, 0), NOT_ENOUGH);
        Check.same("what is left", x.transfer(1, 0, 1, 0), 1);
        Check.same("reserved room", x.transfer(0, 2, 7, 0), NO_ROOM);
        Check.same("room that is left", x.transfer(0, 2, 6, 0), 2);
        Check.same("map", Check.map(x), "2111222220");
        Check.same("entries", x.entryCount(), 3);
        StorageLedger y = Check.ledger("blocks 4;pool a 4 0;grant a 4");
        y.reserve(1, 0, 3, 5);
        y.corrupt(0, 0);
        y.corrupt(1, 0);
        Check.same("free has the quota of all blocks", y.room(0), -1);
        Check.same("negative availability", y.transfer(1, 0, 1, 0), NOT_ENOUGH);
    }

    private static void promise12Ways() {
        StorageLedger x = Check.ledger("blocks 12;pool a 12 0;grant a 12;pick highest");
        x.transfer(1, 0, 2, 0);
        Check.same("highest", Check.map(x), "111111111100");
        x.advance(1);
        x.transferBlock(4, 0, 0);
        x.advance(1);
        x.transferBlock(2, 0, 0);
        x.setPick(2);
        // Free has 10 and 11 since 0, 4 since 1, 2 since 2.
        x.transfer(0, 1, 1, 0);
        Check.same("oldest, of equal times the smallest", Check.map(x), "110101111110");
        x.transfer(0, 1, 2, 0);
        Check.same("oldest, over two times", Check.map(x), "110111111111");
        StorageLedger y = Check.ledger("blocks 12;pool a 12 0;pick fitting");
        for (int block : new int[] {3, 6, 9}) {
            y.transferBlock(block, 1, 0);
        }
        // Free has the runs 0-2, 4-5, 7-8 and 10-11.
        y.transfer(0, 1, 2, 0);
        Check.same("fitting, the first of the shortest", Check.map(y), "000111100100");
        y.transfer(0, 1, 3, 0);
        Check.same("fitting, only one is long enough", Check.map(y), "111111100100");
        y.transfer(0, 1, 3, 0);
        Check.same("fitting, none: as lowest", Check.map(y), "111111111110");
        StorageLedger z = Check.ledger("blocks 7;pool a 7 0;pick fitting");
        z.transferBlock(4, 1, 0);
        z.transfer(0, 1, 1, 0);
        Check.same("fitting takes the first blocks of the run", Check.map(z), "0000110");
    }

    private static void promise12Exceptions() {
        StorageLedger x = Check.ledger("blocks 10;pool a 8 0;pool b 5 0;grant a 5");
        Check.index("from below", () -> x.transfer(-1, 0, 1, 0));
        Check.index("from above", () -> x.transfer(3, 0, 1, 0));
        Check.index("to below", () -> x.transfer(0, -1, 1, 0));
        Check.index("to above", () -> x.transfer(0, 3, 1, 0));
        Check.index("pools before all else", () -> x.transfer(3, 3, 0, 10));
        Check.argument("same pools", () -> x.transfer(1, 1, 1, 0));
        Check.argument("count 0", () -> x.transfer(0, 1, 0, 0));
        Check.argument("count 201", () -> x.transfer(0, 1, 201, 0));
        Check.argument("reason -1", () -> x.transfer(0, 1, 1, -1));
        Check.argument("reason 10", () -> x.transfer(0, 1, 1, 10));
        Check.same("count 200 is in range", x.transfer(0, 1, 200, 0), NOT_ENOUGH);
        Check.same("entries stay", x.entryCount(), 1);
    }

    private static void promise13TransferBlock() {
        StorageLedger x = Check.ledger("blocks 10;pool a 8 0;pool b 5 0;grant a 5");
        x.advance(3);
        Check.same("transferBlock", x.transferBlock(7, 2, 6), 1);
        Check.same("map", Check.map(x), "1111100200");
        Check.same("since", x.since(7), 3);
        Check.same("entry", Check.entry(x, 1), "0 2 1 6 3 0 -1");
        Check.same("its block", x.entryBlock(1, 0), 7);
        Check.same("no other block", x.entryBlock(1, 1), StorageLedger.NONE);
        Check.same("reverse it", x.reverse(1), 2);
        Check.same("map then", Check.map(x), "1111100000");
    }

    private static void promise13Errors() {
        StorageLedger exact = Check.ledger("blocks 6;pool a 1 0;pool b 1 0;grant a 1");
        Check.same("the last block into the last room", exact.transferBlock(0, 2, 1), 1);
        StorageLedger x = Check.ledger("blocks 6;pool a 2 0;pool b 6 0;grant a 2");
        Check.same("is there already", x.transferBlock(0, 1, 1), WRONG_STATE);
        Check.same("no room", x.transferBlock(3, 1, 1), NO_ROOM);
        x.reserve(1, 2, 2, 9);
        Check.same("all are reserved", x.transferBlock(0, 0, 1), NOT_ENOUGH);
        Check.same("there already comes first", x.transferBlock(0, 1, 1), WRONG_STATE);
        x.reserve(0, 2, 4, 9);
        Check.same("not enough before no room", x.transferBlock(4, 1, 1), NOT_ENOUGH);
        Check.index("block -1", () -> x.transferBlock(-1, 0, 1));
        Check.index("block 6", () -> x.transferBlock(6, 0, 1));
        Check.index("pool -1", () -> x.transferBlock(0, -1, 1));
        Check.index("pool 3", () -> x.transferBlock(0, 3, 10));
        Check.argument("reason -1", () -> x.transferBlock(0, 1, -1));
        Check.argument("reason 10", () -> x.transferBlock(0, 1, 10));
        Check.same("map stays", Check.map(x), "110000");
        Check.same("entries stay", x.entryCount(), 1);
    }

    private static void promise14Reverse() {
        StorageLedger x = Check.ledger("blocks 9;pool a 9 0;pool b 9 0;grant a 6;pick highest");
        x.advance(2);
        x.transfer(1, 2, 3, 8);
        x.transferBlock(8, 2, 1);
        x.advance(3);
        Check.same("reverse", x.reverse(1), 3);
        Check.same("the same blocks go back", Check.map(x), "111111002");
        Check.same("since", x.since(4), 5);
        Check.same("the reversal", Check.entry(x, 3), "2 1 3 8 5 1 1");
        Check.same("the reversed one", Check.entry(x, 1), "1 2 3 8 2 0 3");
        Check.same("first block of the reversal", x.entryBlock(3, 0), 3);
        Check.same("last block of the reversal", x.entryBlock(3, 2), 5);
        Check.same("reverse twice", x.reverse(1), WRONG_STATE);
        Check.same("reverse a reversal", x.reverse(3), WRONG_STATE);
        Check.same("reverse a grant", x.reverse(0), 4);
        Check.same("map without the grant", Check.map(x), "000000002");
    }

    private static void promise14Errors() {
        StorageLedger x = Check.ledger("blocks 9;pool a 4 0;pool b 9 0;grant a 3");
        x.transfer(1, 2, 2, 1);
        x.transferBlock(1, 0, 1);
        Check.same("a block has gone", x.reverse(1), MOVED);
        x.corrupt(1, 2);
        x.reserve(2, 0, 1, 9);
        Check.same("blocks are reserved", x.reverse(1), NOT_ENOUGH);
        x.release(0);
        x.reserve(0, 1, 2, 9);
        Check.same("no room there", x.reverse(1), NO_ROOM);
        x.reserve(2, 0, 1, 9);
        Check.same("not enough before no room", x.reverse(1), NOT_ENOUGH);
        x.corrupt(0, 1);
        Check.same("moved before not enough", x.reverse(1), MOVED);
        x.reconcile();
        Check.same("an adjustment has no reversal", x.reverse(x.entryCount() - 1), WRONG_STATE);
        Check.index("entry -1", () -> x.reverse(-1));
        Check.index("entry behind the last", () -> x.reverse(x.entryCount()));
    }

    private static void promise24LargestTransfer() {
        StorageLedger x = Check.ledger("blocks 10;pool a 4 0;pool b 9 0;grant a 3");
        Check.same("bounded by room", x.largestTransfer(0, 1), 1);
        Check.same("bounded by blocks", x.largestTransfer(1, 2), 3);
        x.reserve(1, 2, 1, 9);
        Check.same("less what is reserved", x.largestTransfer(1, 2), 2);
        Check.same("less reserved room", x.largestTransfer(0, 2), 7);
        x.corrupt(5, 1);
        x.corrupt(6, 1);
        Check.same("room below 0", x.largestTransfer(0, 1), 0);
        x.corrupt(0, 0);
        x.corrupt(1, 0);
        x.corrupt(2, 0);
        x.corrupt(5, 0);
        x.reserve(0, 2, 8, 9);
        x.corrupt(3, 2);
        x.corrupt(4, 2);
        Check.same("available below 0", x.largestTransfer(0, 1), 0);
        Check.index("from 3", () -> x.largestTransfer(3, 0));
        Check.index("to -1", () -> x.largestTransfer(0, -1));
        Check.index("the pools before they are the same", () -> x.largestTransfer(3, 3));
        Check.argument("same pools", () -> x.largestTransfer(2, 2));
    }

    private static void promises12To16FullJournal() {
        StorageLedger x = Check.ledger("blocks 9;pool a 9 0");
        x.reserve(0, 1, 1, 1000);
        for (int entry = 0; entry < 299; entry++) {
            Check.same("transfer", x.transfer(entry % 2, 1 - entry % 2, 1, 0), entry);
        }
        x.corrupt(0, 0);
        Check.same("the 300th entry", x.transfer(0, 1, 1, 0), 299);
        Check.same("transfer when full", x.transfer(0, 1, 1, 0), FULL);
        Check.same("full before not enough", x.transfer(1, 0, 9, 0), FULL);
        Check.same("transferBlock when full", x.transferBlock(8, 1, 0), FULL);
        Check.same("full before wrong state", x.transferBlock(8, 0, 0), FULL);
        Check.same("reverse when full", x.reverse(299), FULL);
        Check.same("commit when full", x.commit(0, 1), FULL);
        Check.same("it stays pending", x.reservationValue(0, 4), 0);
        Check.same("reconcile when full", x.reconcile(), FULL);
        Check.same("mismatches stay", x.mismatches(), 3);
        Check.same("batch when full", Check.batch(x, "wait 1;back 299"), -1001);
        Check.argument("exceptions before errors", () -> x.transfer(0, 1, 0, 0));
        Check.same("the last entry", Check.entry(x, 299), "0 1 1 0 0 0 -1");
        x.release(0);
        Check.same("wrong state before full", x.commit(0, 1), WRONG_STATE);
        Check.same("entries", x.entryCount(), 300);
        Check.same("map", Check.map(x), "100000000");
    }
}
