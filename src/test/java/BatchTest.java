/** Promise 19: batches. */
public final class BatchTest {
    private static final String POOLS = "blocks 10;pool a 8 100;pool b 5 0;grant a 5";

    public static void main(String[] args) {
        carriesOutAllCommands();
        carriesOutNothingIfOneFails();
        holdsManyCommands();
        misplacedWordsAndBytes();
        numbersOutOfRange();
        wrongNames();
        readsTheWholeTextFirst();
        reversesNoEntryOfAnEarlierLedger();
        Check.end("BatchTest");
    }

    private static void carriesOutAllCommands() {
        StorageLedger x = Check.ledger(POOLS);
        x.setPick(1);
        Check.same("batch", Check.batch(x, "move 2 a b 7;wait 3; hold 1 a free 20;back1"), 4);
        Check.same("textError", x.textError(), 0);
        Check.same("map", Check.map(x), "1111100000");
        Check.same("time", x.now(), 3);
        Check.same("the move", Check.entry(x, 1), "1 2 2 7 0 0 2");
        Check.same("the block picked", x.entryBlock(1, 0), 3);
        Check.same("the reversal", Check.entry(x, 2), "2 1 2 7 3 1 1");
        Check.same("rent", x.rent(1), 9f);
        Check.same("the reservation", Check.reservation(x, 0), "1 0 1 23 0");
        Check.same("buffer", x.appendByte('a'), 1);
    }

    private static void carriesOutNothingIfOneFails() {
        StorageLedger x = Check.ledger(POOLS);
        x.reserve(1, 2, 1, 2);
        x.checkpoint();
        fails(x, "move 1 a b 1;wait 5;hold 9 a b 5", 2);
        fails(x, "back 1", 0);
        fails(x, "back 299", 0);
        fails(x, "move 5 a b 1", 0);
        fails(x, "wait 2;move 5 a b 1;move 1 free b 1", 2);
        fails(x, "move 2 a b 1;back 1;back 1", 2);
        fails(x, "move 1 a free 1;move 1 free b 1;back 1", 2);
        Check.same("a batch after these", Check.batch(x, "wait 2;move 5 a b 1"), 2);
        Check.same("its map", Check.map(x), "2222200000");
    }

    private static void fails(StorageLedger x, String text, int command) {
        Check.same("batch " + text, Check.batch(x, text), -1000 - command);
        Check.same("textError of " + text, x.textError(), 0);
        Check.same("map behind " + text, Check.map(x), "1111100000");
        Check.same("since behind " + text, x.since(0), 0);
        Check.same("time behind " + text, x.now(), 0);
        Check.same("rent behind " + text, x.rent(1), 0f);
        Check.same("entries behind " + text, x.entryCount(), 1);
        Check.same("entry behind " + text, x.entryValue(0, 6), StorageLedger.NONE);
        Check.same("reservations behind " + text, x.reservationCount(), 1);
        Check.same("reservation behind " + text, x.reservationValue(0, 4), 0);
        Check.same("buffer behind " + text, x.appendByte('x'), 1);
        x.poolNamed();
    }

    private static void holdsManyCommands() {
        StorageLedger x = new StorageLedger();
        StringBuilder text = new StringBuilder("wait1");
        for (int command = 1; command < 83; command++) {
            text.append(";wait1");
        }
        Check.same("83 commands", Check.batch(x, text.toString()), 83);
        Check.same("all were carried out", x.now(), 83);
    }

    private static void misplacedWordsAndBytes() {
        bad("", 1, 0);
        bad("  ", 1, 2);
        bad("wait", 1, 4);
        bad("wait 1;", 1, 7);
        bad("wait 1;;", 1, 7);
        bad("wait 1 1", 1, 7);
        bad("wait x", 1, 5);
        bad("waits 1", 1, 0);
        bad("bait 1", 1, 0);
        bad("love 1 a b 1", 1, 0);
        bad("pool c 1 1", 1, 0);
        bad("wait 1;grant a 1", 1, 7);
        bad("1", 1, 0);
        bad("wait 1,", 1, 6);
        bad("move", 1, 4);
        bad("move a", 1, 5);
        bad("move 1", 1, 6);
        bad("move 1 1", 1, 7);
        bad("move 1 a", 1, 8);
        bad("move 1 a 1", 1, 9);
        bad("move 1 a b", 1, 10);
        bad("move 1 a b c", 1, 11);
        bad("move 1 a b 1 1", 1, 13);
        bad("hold 1 a b", 1, 10);
        bad("hold 1 a b ;", 1, 11);
        bad("back", 1, 4);
        bad("back a", 1, 5);
        bad("back -1", 1, 5);
    }

    private static void numbersOutOfRange() {
        bad("move 0 a b 1", 2, 5);
        bad("move 201 a b 1", 2, 5);
        bad("move 1 a b 10", 2, 11);
        bad("hold 0 a b 1", 2, 5);
        bad("hold 201 a b 1", 2, 5);
        bad("hold 1 a b 0", 2, 11);
        bad("hold 1 a b 1001", 2, 11);
        bad("wait 0", 2, 5);
        bad("wait 1001", 2, 5);
        bad("wait 99999999999", 2, 5);
        bad("back 300", 2, 5);
        StorageLedger x = Check.ledger("blocks 200;pool a 200 0;pool b 200 0");
        Check.same("the ends of the ranges", Check.batch(x,
                "move 200 free a 0;back 0;move 1 free a 9;hold 1 a b 1;hold 199 free a 1000"
                + ";wait 1000"), 6);
    }

    private static void wrongNames() {
        bad("move 1 c a 1", 3, 7);
        bad("move 1 a c 1", 3, 9);
        bad("move 1 a a 1", 3, 9);
        bad("move 1 free free 1", 3, 12);
        bad("move 1 abcdefg a 1", 3, 7);
        bad("hold 1 a ab 1", 3, 9);
        bad("hold 1 b b 0", 3, 9);
        bad("wait 1;move 1 move a 1", 3, 14);
        bad("move 1 a c", 3, 9);
    }

    private static void bad(String text, int error, int position) {
        StorageLedger x = Check.ledger(POOLS);
        Check.same("batch " + text, Check.batch(x, text), -100 - position);
        Check.same("textError " + text, x.textError(), error);
        Check.same("map behind " + text, Check.map(x), "1111100000");
        Check.same("time behind " + text, x.now(), 0);
        Check.same("entries behind " + text, x.entryCount(), 1);
        Check.same("buffer behind " + text, x.appendByte('a'), 1);
    }

    private static void reversesNoEntryOfAnEarlierLedger() {
        StorageLedger x = new StorageLedger();
        for (int again = 0; again < 3; again++) {
            Check.load(x, "blocks 9;pool a 9 0;grant a 3");
            Check.same("back 1 where there is entry 0 alone", Check.batch(x, "back 1"), -1000);
            Check.load(x, "blocks 9;pool a 9 0;grant a 2");
            x.transfer(0, 1, 1, 0);
            Check.same("back 1", Check.batch(x, "back 1;move 1 free a 1"), 2);
        }
    }

    private static void readsTheWholeTextFirst() {
        StorageLedger x = Check.ledger(POOLS);
        Check.same("an error of the text behind a command that cannot be carried out",
                Check.batch(x, "back 200;wait 0"), -114);
        Check.same("names need no spaces beside numbers", Check.batch(x, "move1a b0;wait1"), 2);
        Check.same("free may be named", Check.batch(x, "move 1 free a 1;move 1 b free 2"), 2);
        Check.same("map", Check.map(x), "0111110000");
    }
}
