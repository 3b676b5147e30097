/** Promises 1 to 8: a new object, the input buffer, descriptions and names. */
public final class TextTest {
    public static void main(String[] args) {
        promise1NewObject();
        promise2AppendByte();
        promise3LoadGoodTexts();
        promise3LoadBeginsANewLedger();
        promise3LoadKeepsTheLedgerOnErrors();
        promise3Grants();
        promise3And4MisplacedWordsAndBytes();
        promise3And4NumbersOutOfRange();
        promise3And4Names();
        promise3And4EighthPool();
        promise4TextError();
        promise5PoolNamed();
        promises6And7Counts();
        promise8NameByte();
        Check.end("TextTest");
    }

    private static void promise1NewObject() {
        StorageLedger x = new StorageLedger();
        Check.same("new: blocks", x.blockCount(), 10);
        Check.same("new: pools", x.poolCount(), 1);
        Check.same("new: map", Check.map(x), "0000000000");
        Check.same("new: since", x.since(9), 0);
        Check.same("new: time", x.now(), 0);
        Check.same("new: entries", x.entryCount(), 0);
        Check.same("new: reservations", x.reservationCount(), 0);
        Check.same("new: text error", x.textError(), 0);
        Check.same("new: way", x.setPick(3), 0);
        Check.same("new: rent", x.totalRent(), 0f);
        Check.same("new: first snapshot", x.restoreSnapshot(0), StorageLedger.NONE);
        Check.same("new: second snapshot", x.restoreSnapshot(1), StorageLedger.NONE);
        Check.same("new: empty buffer", x.appendByte('a'), 1);
        Check.same("new: first checkpoint", x.checkpoint(), 0);
    }

    private static void promise2AppendByte() {
        StorageLedger x = new StorageLedger();
        Check.same("appendByte least", x.appendByte(0), 1);
        Check.same("appendByte greatest", x.appendByte(255), 2);
        Check.argument("appendByte(-1)", () -> x.appendByte(-1));
        Check.argument("appendByte(256)", () -> x.appendByte(256));
        Check.argument("appendByte(MIN)", () -> x.appendByte(Integer.MIN_VALUE));
        for (int length = 3; length <= 500; length++) {
            Check.same("appendByte", x.appendByte(' '), length);
        }
        Check.same("appendByte when full", x.appendByte('a'), StorageLedger.FULL);
        Check.argument("appendByte(256) when full", () -> x.appendByte(256));
        Check.same("full buffer as a description", x.load(), -100);
        Check.same("buffer after load", x.appendByte('a'), 1);
    }

    private static void promise3LoadGoodTexts() {
        good("blocks 1", 1, "0");
        good("blocks 0012", 1, "000000000000");
        good("blocks5", 1, "00000");
        good("   blocks   5   ", 1, "00000");
        good("blocks5;pool a5 7;grant a3", 2, "11100");
        good("blocks5;pool a5 7;grant a 003 ;pick highest", 2, "11100");
        good(" blocks 6 ; pool ab 3 7 ; grant ab 2 ; pick oldest ", 2, "110000");
        good("blocks 4;pool pool 4 0;pool pick 4 0;pool grant 4 0;pool blocks 4 0"
                + ";grant pick 1;grant grant 1", 5, "2300");
        good("blocks 3;pool abcdef 0 0", 2, "000");
        good("blocks 3;pool tree 3 1;grant tree 1", 2, "100");
        good("blocks 3;pool fre 200 9999;pool freea 1 1", 3, "000");
        good("blocks 8;pool a 1 0;pool b 1 0;pool c 1 0;pool d 1 0;pool e 1 0;pool f 1 0;pool g 1 0"
                + ";grant g 1;grant a 1", 8, "71000000");
        Check.same("200 blocks", Check.ledger("blocks 200").blockCount(), 200);
    }

    private static void good(String text, int pools, String map) {
        StorageLedger x = new StorageLedger();
        Check.same("load " + text, Check.load(x, text), pools);
        Check.same("textError " + text, x.textError(), 0);
        Check.same("map of " + text, Check.map(x), map);
        Check.same("buffer behind " + text, x.appendByte('a'), 1);
    }

    private static void promise3LoadBeginsANewLedger() {
        StorageLedger x = new StorageLedger();
        use(x);
        x.saveSnapshot(1);
        newLedger(x);
        Check.same("the snapshots stay", x.restoreSnapshot(1), 3);
        Check.same("the snapshot's map", Check.map(x), "0111000000");
        // However often: no ledger may show anything of those that were before it.
        use(x);
        use(x);
        newLedger(x);
        use(x);
        newLedger(x);
        newLedger(x);
    }

    private static void use(StorageLedger x) {
        Check.load(x, "blocks 10;pool a 8 100;grant a 5;pick highest");
        x.transfer(1, 0, 1, 4);
        x.reserve(0, 1, 1, 5);
        x.advance(3);
        x.checkpoint();
        x.corrupt(0, 0);
    }

    private static void newLedger(StorageLedger x) {
        Check.same("load anew", Check.load(x, "blocks 6;pool b 3 2"), 2);
        Check.same("time anew", x.now(), 0);
        Check.same("map anew", Check.map(x), "000000");
        Check.same("since anew", x.since(0), 0);
        Check.same("entries anew", x.entryCount(), 0);
        Check.same("booked anew", x.booked(0), 6);
        Check.same("reservations anew", x.reservationCount(), 0);
        Check.same("rent anew", x.rent(1), 0f);
        Check.same("way anew", x.setPick(0), 0);
        Check.same("checkpoints anew", x.checkpoint(), 0);
        Check.same("old name", Check.named(x, "a"), StorageLedger.NONE);
        Check.same("new name", Check.named(x, "b"), 1);
        Check.same("no entry to reverse", Check.batch(x, "back 0"), -1000);
        Check.index("no entry to look at", () -> x.entryValue(0, 0));
        Check.index("no reservation to look at", () -> x.reservationValue(0, 0));
    }

    private static void promise3LoadKeepsTheLedgerOnErrors() {
        StorageLedger x = Check.ledger("blocks 6;pool a 4 100;grant a 2;pick oldest");
        x.advance(7);
        Check.same("load of a wrong text",
                Check.load(x, "blocks 9;pool b 9 1;grant b 5;pick highest;x"), -100 - 43);
        Check.same("map stays", Check.map(x), "110000");
        Check.same("time stays", x.now(), 7);
        Check.same("rent stays", x.rent(1), 14f);
        Check.same("name stays", Check.named(x, "a"), 1);
        Check.same("entries stay", x.entryCount(), 1);
        Check.same("way stays", x.setPick(0), 2);
        Check.same("buffer is emptied", x.load(), -100);
    }

    private static void promise3Grants() {
        StorageLedger x = Check.ledger(
                "blocks 9;pool a 5 1;pick highest;grant a 2;pool b 9 1;grant b 3;grant a 3;pick oldest");
        Check.same("grants pick the lowest", Check.map(x), "112221110");
        Check.same("grants are entries", x.entryCount(), 3);
        Check.same("first grant", Check.entry(x, 0), "0 1 2 0 0 0 -1");
        Check.same("second grant", Check.entry(x, 1), "0 2 3 0 0 0 -1");
        Check.same("third grant", Check.entry(x, 2), "0 1 3 0 0 0 -1");
        Check.same("block of a grant", x.entryBlock(2, 2), 7);
        Check.same("the last pick counts", x.setPick(0), 2);
        StorageLedger y = Check.ledger("blocks 9;pick fitting;pick lowest");
        Check.same("back to the first way", y.setPick(1), 0);
    }

    private static void promise3And4MisplacedWordsAndBytes() {
        bad("", 1, 0);
        bad("   ", 1, 3);
        bad("blocks", 1, 6);
        bad("blocks  ", 1, 8);
        bad("block 5", 1, 0);
        bad(" blockss 5", 1, 1);
        bad("clocks 5", 1, 0);
        bad("blocks 5;tool a 1 1", 1, 9);
        bad("blocks 5;kick lowest", 1, 9);
        bad("blocks 5;pick coldest", 1, 14);
        bad("Blocks 5", 1, 0);
        bad("5", 1, 0);
        bad(";", 1, 0);
        bad("blocks x", 1, 7);
        bad("blocks ;", 1, 7);
        bad("blocks -5", 1, 7);
        bad("blocks 5;", 1, 9);
        bad("blocks 5; ", 1, 10);
        bad("blocks 5;;pick lowest", 1, 9);
        bad("blocks 5 6", 1, 9);
        bad("blocks 5x", 1, 8);
        bad("blocks 5\tx", 1, 8);
        bad("blocks 5;blocks 5", 1, 9);
        bad("blocks 5;wait 5", 1, 9);
        bad("blocks 5;pic", 1, 9);
        bad("blocks 5;5", 1, 9);
        bad("blocks 5;pick", 1, 13);
        bad("blocks 5;pick low", 1, 14);
        bad("blocks 5;pick lowests", 1, 14);
        bad("blocks 5;picklowest", 1, 9);
        bad("blocks 5;pick 1", 1, 14);
        bad("blocks 5;pick lowest highest", 1, 21);
        bad("blocks 5;pick lowest,", 1, 20);
        bad("blocks 5;pool", 1, 13);
        bad("blocks 5;pool 3 4 5", 1, 14);
        bad("blocks 5;pool a", 1, 15);
        bad("blocks 5;pool a b", 1, 16);
        bad("blocks 5;pool a 3", 1, 17);
        bad("blocks 5;pool a 3;", 1, 17);
        bad("blocks 5;pool a 3 4 5", 1, 20);
        bad("blocks 5;pool a 3 4x", 1, 19);
        bad("blocks 5;pool free 3 4", 1, 14);
        bad("blocks 5;pool abcdefg 3 4", 1, 14);
        bad("blocks 5;pool aB 3 4", 1, 15);
        bad("blocks 5;pool a 3 4;grant", 1, 25);
        bad("blocks 5;pool a 3 4;grant 2", 1, 26);
        bad("blocks 5;pool a 3 4;grant a", 1, 27);
        bad("blocks 5;pool a 3 4;grant a a", 1, 28);
        bad("blocks 5;pool a 3 4;grant a 1 1", 1, 30);
        bad("blocks 5" + (char) 255, 1, 8);
        bad("blocks 5" + (char) 0, 1, 8);
    }

    private static void promise3And4NumbersOutOfRange() {
        bad("blocks 0", 2, 7);
        bad("blocks 201", 2, 7);
        bad("blocks 99999999999999999999", 2, 7);
        bad("blocks 4294967297", 2, 7);
        bad("blocks 0x", 2, 7);
        bad("blocks 5;pool a 201 1", 2, 16);
        bad("blocks 5;pool a 5 10000", 2, 18);
        bad("blocks 5;pool a 5 100000", 2, 18);
        bad("blocks 5;pool a 9 1;grant a 0", 2, 28);
        bad("blocks 5;pool a 9 1;grant a 6", 2, 28);
        bad("blocks 5;pool a 3 1;grant a 4", 2, 28);
        bad("blocks 5;pool a 3 1;grant a 2;grant a 2", 2, 38);
        bad("blocks 5;pool a 9 1;pool b 9 1;grant a 3;grant b 3", 2, 49);
        bad("blocks 5;pool a 0 1;grant a 1", 2, 28);
        bad("blocks 5;pool a 9 1;grant a 201 x", 2, 28);
        good("blocks 5;pool a 9 1;grant a 5", 2, "11111");
        good("blocks 5;pool a 3 1;grant a 1;grant a 2", 2, "11100");
    }

    private static void promise3And4Names() {
        bad("blocks 5;pool a 1 1;pool a 1 1", 3, 25);
        bad("blocks 5;pool a 1 1;pool b 1 1;pool  b", 3, 37);
        bad("blocks 5;grant x 1", 3, 15);
        bad("blocks 5;grant a 1;pool a 5 5", 3, 15);
        bad("blocks 5;pool a 5 5;grant free 1", 3, 26);
        bad("blocks 5;pool a 5 5;grant abcdefg 1", 3, 26);
        bad("blocks 5;pool abcdef 5 5;grant abcdefg 1", 3, 31);
        bad("blocks 5;pool ab 5 5;grant a 1", 3, 27);
        bad("blocks 5;pool a 5 5;grant ab 1", 3, 26);
    }

    private static void promise3And4EighthPool() {
        String seven = "blocks 8;pool a 1 0;pool b 1 0;pool c 1 0;pool d 1 0;pool e 1 0;pool f 1 0"
                + ";pool g 1 0";
        bad(seven + "; pool h 1 0", 4, seven.length() + 2);
        bad(seven + ";pool", 4, seven.length() + 1);
        bad(seven + ";pool free 1 0", 4, seven.length() + 1);
        bad(seven + ";pools", 1, seven.length() + 1);
    }

    private static void bad(String text, int error, int position) {
        StorageLedger x = new StorageLedger();
        Check.same("load " + text, Check.load(x, text), -100 - position);
        Check.same("textError " + text, x.textError(), error);
        Check.same("blocks behind " + text, x.blockCount(), 10);
        Check.same("pools behind " + text, x.poolCount(), 1);
        Check.same("buffer behind " + text, x.appendByte('a'), 1);
    }

    private static void promise4TextError() {
        StorageLedger x = new StorageLedger();
        Check.load(x, "blocks 0");
        Check.same("textError of load", x.textError(), 2);
        Check.same("textError stays", x.textError(), 2);
        Check.named(x, "a");
        x.saveSnapshot(0);
        Check.same("textError behind poolNamed", x.textError(), 2);
        Check.batch(x, "move 1 free b 1");
        Check.same("textError of batch", x.textError(), 3);
        x.restoreSnapshot(0);
        Check.same("textError is in no snapshot", x.textError(), 3);
        Check.batch(x, "back 0");
        Check.same("textError of a batch that cannot be carried out", x.textError(), 0);
        x.load();
        Check.same("textError of an empty text", x.textError(), 1);
        Check.batch(x, "wait 1");
        Check.same("textError of a good batch", x.textError(), 0);
    }

    private static void promise5PoolNamed() {
        StorageLedger x = Check.ledger("blocks 5;pool a 5 0;pool ab 5 0;pool abcdef 5 0");
        Check.same("free", Check.named(x, "free"), 0);
        Check.same("a", Check.named(x, "a"), 1);
        Check.same("ab", Check.named(x, "ab"), 2);
        Check.same("abcdef", Check.named(x, "abcdef"), 3);
        Check.same("the buffer is emptied", x.poolNamed(), StorageLedger.NONE);
        String[] none = {"b", "abc", "abcdefg", " a", "a ", "a;", "A", "fre", "frees", "a b", "1"};
        for (String name : none) {
            Check.same("name " + name, Check.named(x, name), StorageLedger.NONE);
            Check.same("buffer behind " + name, Check.named(x, "ab"), 2);
        }
    }

    private static void promises6And7Counts() {
        StorageLedger x = Check.ledger("blocks 17;pool a 5 0;pool b 5 0;pool c 5 0;grant b 4");
        Check.same("blockCount", x.blockCount(), 17);
        Check.same("poolCount", x.poolCount(), 4);
    }

    private static void promise8NameByte() {
        StorageLedger x = Check.ledger("blocks 5;pool quartz 5 0;pool ab 5 0");
        Check.same("nameByte of free", (char) x.nameByte(0, 3), 'e');
        Check.same("nameByte behind free", x.nameByte(0, 4), StorageLedger.NONE);
        Check.same("first nameByte", (char) x.nameByte(1, 0), 'q');
        Check.same("last nameByte", (char) x.nameByte(1, 5), 'z');
        Check.same("nameByte behind", x.nameByte(1, 6), StorageLedger.NONE);
        Check.same("nameByte of the next pool", (char) x.nameByte(2, 1), 'b');
        Check.same("nameByte behind the next", x.nameByte(2, 2), StorageLedger.NONE);
        Check.same("nameByte before", x.nameByte(2, -1), StorageLedger.NONE);
        Check.same("nameByte far away", x.nameByte(2, Integer.MAX_VALUE), StorageLedger.NONE);
        Check.same("nameByte far before", x.nameByte(2, Integer.MIN_VALUE), StorageLedger.NONE);
        Check.index("nameByte(3, 0)", () -> x.nameByte(3, 0));
        Check.index("nameByte(-1, 0)", () -> x.nameByte(-1, 0));
        // A shorter name must not show what a longer one left at its place.
        Check.load(x, "blocks 5;pool a 5 0");
        Check.same("nameByte of a shorter name", x.nameByte(1, 1), StorageLedger.NONE);
    }
}
