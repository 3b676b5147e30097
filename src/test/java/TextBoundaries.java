import java.util.List;

/** Sections 1, 5 and 6 of the description, and the promises about texts: 1 to 8, and 19. */
final class TextBoundaries extends Boundaries {
    private static final String FULL_TEXT = "blocks 7" + " ".repeat(492);

    private TextBoundaries() {
    }

    static void test() {
        statements();
        pools1();
        ways();
        grants();
        firstState();
        tokens();
        names();
        spaces();
        error1();
        errors2To4();
        newObject();
        appendByte();
        load();
        loadAgain();
        textError();
        poolNamed();
        counts();
        nameByte();
    }

    private static void good(String text, int pools) {
        Run.fresh().loads(text, pools);
    }

    /** A text that is refused, on a ledger that has something to lose. */
    private static void bad(String text, int position, int error) {
        Run.of("blocks 3;pool a3 7;grant a1").refused("load()", text, -100 - position, error);
    }

    // ---- section 1 ----

    private static void statements() {
        Doc.section(1, "A description is a list of statements, separated by semicolons.");
        good("blocks 4;pool a 1 1;pick highest", 2);
        bad("blocks 4 pool a 1 1", 9, 1);
        bad("blocks 4;;pick lowest", 9, 1);
        bad("blocks 4;", 9, 1);
        bad(";blocks 4", 0, 1);
        Doc.section(1, "The first statement is: blocks COUNT");
        bad("", 0, 1);
        bad("pool a 1 1", 0, 1);
        bad("pick lowest;blocks 4", 0, 1);
        bad("grant a 1;blocks 4", 0, 1);
        bad("blocks 4;blocks 4", 9, 1);
        Doc.section(1, "the number of blocks, 1 to 200");
        Run.fresh().loads("blocks 1", 1).due("blockCount()", 1);
        Run.fresh().loads("blocks 200", 1).due("blockCount()", 200);
        Run.fresh().loads("blocks 0200", 1).due("blockCount()", 200);
        bad("blocks 0", 7, 2);
        bad("blocks 201", 7, 2);
        Doc.section(1, "they are numbered from 0.");
        Run.of("blocks 1").due("poolOf(0)", 0).still("poolOf(1)", INDEX).still("poolOf(-1)", INDEX);
        Run.of("blocks 200").due("poolOf(199)", 0).due("poolOf(200)", INDEX);
        Doc.section(1, "The others may occur in any order:");
        Run.fresh().loads("blocks 6;pick oldest;pool a 2 0;grant a 1;pool b 3 0;pick highest;grant b 1"
                + ";grant a 1", 3).map("121000").due("setPick(0)", 1);
    }

    private static void pools1() {
        Doc.section(1, "pool NAME QUOTA RATE - a pool");
        good("blocks 4;pool a 1 1", 2);
        bad("blocks 4;pool 1 1", 14, 1);
        bad("blocks 4;pool a 1", 17, 1);
        bad("blocks 4;pool a 1 1 1", 20, 1);
        Doc.section(1, "QUOTA 0 to 200");
        Run.fresh().loads("blocks 4;pool a 0 1", 2).due("room(1)", 0)
                .still("transfer(0, 1, 1, 0)", NO_ROOM);
        Run.fresh().loads("blocks 200;pool a 200 1", 2).due("room(1)", 200)
                .due("transfer(0, 1, 200, 0)", 0);
        bad("blocks 4;pool a 201 1", 16, 2);
        Doc.section(1, "RATE 0 to 9999");
        Run.fresh().loads("blocks 4;pool a 4 0;grant a 1", 2).due("rentAhead(1, 1)", 0f);
        Run.fresh().loads("blocks 4;pool a 4 9999;grant a 1", 2)
                .due("rentAhead(1, 1)", 0f + 9999 / 100f * 1);
        bad("blocks 4;pool a 4 10000", 18, 2);
        Doc.section(1, "at most 7;");
        Run.fresh().loads(manyPools(7), 8).due("poolCount()", 8);
        bad(manyPools(8), manyPools(7).length() + 1, 4);
    }

    private static void ways() {
        Doc.section(1, "pick WAY - how blocks are picked: lowest, highest, oldest or fitting");
        List<String> ways = List.of("lowest", "highest", "oldest", "fitting");
        for (String way : ways) {
            Run.fresh().loads("blocks 4;pick " + way, 1).due("setPick(0)", ways.indexOf(way));
            bad("blocks 4;pick " + way + "s", 14, 1);
            bad("blocks 4;pick " + way.substring(1), 14, 1);
            bad("blocks 4;pick " + way.substring(0, way.length() - 1), 14, 1);
        }
        bad("blocks 4;pick", 13, 1);
        bad("blocks 4;pick 0", 14, 1);
        bad("blocks 4;pick free", 14, 1);
        Doc.section(1, "the last such statement counts");
        Run.fresh().loads("blocks 4;pick oldest;pick fitting;pick highest", 1).due("setPick(0)", 1);
        Run.fresh().loads("blocks 4;pick fitting;pool a 1 1;pick lowest", 2).due("setPick(1)", 0);
        Doc.section(1, "lowest without one;");
        Run.of("blocks 4;pick fitting").loads("blocks 4;pool a 1 1", 2).due("setPick(1)", 0);
    }

    private static void grants() {
        Doc.section(1, "grant NAME COUNT - a transfer of COUNT blocks (1 to 200) from the pool free to"
                + " this pool");
        Run.fresh().loads("blocks 4;pool a 4 0;grant a 1", 2).map("1000").entry(0, "0 1 1 0 0 0 -1");
        Run.fresh().loads("blocks 200;pool a 200 0;grant a 200", 2).due("balance(1)", 200)
                .due("entryBlock(0, 199)", 199);
        bad("blocks 4;pool a 4 0;grant a 0", 28, 2);
        bad("blocks 200;pool a 200 0;grant a 201", 32, 2);
        Doc.section(1, ", which was described before");
        good("blocks 4;pool a 1 0;grant a 1", 2);
        bad("blocks 4;grant a 1;pool a 1 0", 15, 3);
        Doc.section(1, ", with the reason 0, in the order of the text");
        Run.fresh().loads("blocks 6;pool a 3 0;pool b 3 0;grant b 2;grant a 1;grant b 1", 3)
                .map("221200").entry(0, "0 2 2 0 0 0 -1").entry(1, "0 1 1 0 0 0 -1")
                .entry(2, "0 2 1 0 0 0 -1").due("entryCount()", 3);
        Doc.section(1, "COUNT must be at most the number of blocks of free");
        good("blocks 4;pool a 9 0;grant a 4", 2);
        bad("blocks 4;pool a 9 0;grant a 5", 28, 2);
        good("blocks 4;pool a 9 0;pool b 9 0;grant a 3;grant b 1", 3);
        bad("blocks 4;pool a 9 0;pool b 9 0;grant a 3;grant b 2", 49, 2);
        bad("blocks 4;pool a 9 0;pool b 9 0;grant a 4;grant b 1", 49, 2);
        Doc.section(1, ", and at most QUOTA minus the number of blocks of the pool.");
        good("blocks 9;pool a 3 0;grant a 3", 2);
        bad("blocks 9;pool a 3 0;grant a 4", 28, 2);
        good("blocks 9;pool a 3 0;grant a 2;grant a 1", 2);
        bad("blocks 9;pool a 3 0;grant a 2;grant a 2", 38, 2);
        bad("blocks 9;pool a 3 0;grant a 3;grant a 1", 38, 2);
        bad("blocks 9;pool a 0 0;grant a 1", 28, 2);
    }

    private static void firstState() {
        Doc.section(1, "Pools are numbered in the order of the text");
        Run run = Run.of(manyPools(7).replace("pool c", "pool zebra"));
        run.typed("a").due("poolNamed()", 1).typed("zebra").due("poolNamed()", 3);
        run.typed("g").due("poolNamed()", 7);
        Doc.section(1, "the pool 0 is called free and always exists.");
        Run.fresh().typed("free").due("poolNamed()", 0).due("balance(0)", 10);
        Run.of("blocks 5;pool a 1 0").typed("free").due("poolNamed()", 0).due("balance(0)", 5);
        Doc.section(1, "At first all blocks are in free, since time 0.");
        Run later = Run.of("blocks 3;pool a 3 0;grant a 3").does("advance(5)", "transfer(1, 0, 3, 0)");
        later.loads("blocks 3", 1).map("000");
        later.due("since(0)", 0).due("since(1)", 0).due("since(2)", 0);
        Doc.section(1, "Grants pick the lowest blocks, whatever WAY is.");
        for (String way : List.of("lowest", "highest", "oldest", "fitting")) {
            Run.of("blocks 6;pool a 6 0;pick " + way + ";grant a 2;grant a 1").map("111000");
        }
        Doc.section(1, "A new object is described by the text \"blocks 10\".");
        Run.fresh().sameAs(Run.of("blocks 10")).unlike(Run.of("blocks 9"));
    }

    private static void tokens() {
        Doc.section(1, "A word is a maximal run of lower-case letters");
        bad("block s 4", 0, 1);
        bad("blockss 4", 0, 1);
        bad("blocksa 4", 0, 1);
        bad("blocksz 4", 0, 1);
        bad("Blocks 4", 0, 1);
        bad("bLocks 4", 0, 1);
        good("blocks 4;pool az 1 1", 2);
        // The neighbours of a and z are no letters.
        bad("blocks 4;pool a` 1 1", 15, 1);
        bad("blocks 4;pool a{ 1 1", 15, 1);
        bad("blocks 4;pool `a 1 1", 14, 1);
        bad("blocks 4;pool aZ 1 1", 15, 1);
        bad("blocks 4;pool a" + (char) 0xe1 + " 1 1", 15, 1);
        Doc.section(1, ", a number a maximal run of digits.");
        Run.fresh().loads("blocks 109", 1).due("blockCount()", 109);
        bad("blocks 1 0", 9, 1);
        // The neighbours of 0 and 9 are no digits.
        bad("blocks 1/", 8, 1);
        bad("blocks 1:", 8, 1);
        bad("blocks :1", 7, 1);
        bad("blocks 4.0", 8, 1);
        bad("blocks +4", 7, 1);
    }

    private static void names() {
        Doc.section(1, "The NAME of a new pool is a word of 1 to 6 letters other than free");
        Run.fresh().loads("blocks 4;pool a 1 1;pool abcdef 1 1", 3).typed("abcdef")
                .due("poolNamed()", 2);
        good("blocks 4;pool fre 1 1;pool freed 1 1;pool tree 1 1;pool free" + "r 1 1", 5);
        bad("blocks 4;pool a2 1 1", 19, 1);
        Doc.section(1, "(free and a longer word are error 1)");
        bad("blocks 4;pool free 1 1", 14, 1);
        bad("blocks 4;pool abcdefg 1 1", 14, 1);
        bad("blocks 4;pool abcdef 1 1;pool abcdefg 1 1", 30, 1);
        Doc.section(1, "other NAMEs are names of existing pools, free included in batches.");
        Run.of("blocks 4;pool a 4 1;grant a 1").batches("move 1 a free 0;move 1 free a 0", 2)
                .refused("batch()", "move 1 b free 0", -107, 3);
        bad("blocks 4;pool a 4 1;grant b 1", 26, 3);
    }

    private static void spaces() {
        Doc.section(1, "Spaces (byte 32) may stand before and after words, numbers and semicolons");
        good("  blocks  4  ;  pool  a  1  1  ;  grant  a  1  ", 2);
        for (int other : new int[] {0, 9, 10, 13, 31, 33, 160, 255}) {
            bad("blocks 4" + (char) other, 8, 1);
            bad((char) other + "blocks 4", 0, 1);
        }
        Doc.section(1, "; they are required only between two words and between two numbers.");
        good("blocks4;pool a1 1;pick highest;grant a1", 2);
        bad("blocks4;poola1 1", 8, 1);
        bad("blocks4;picklowest", 8, 1);
        bad("blocks4;pool a11", 16, 1);
        bad("blocks4;pool a1 1;granta1", 18, 1);
    }

    private static void error1() {
        Doc.section(1, "The text is read from left to right; the first error ends it.");
        bad("blocks 0;pool free 999 1", 7, 2);
        bad("blocks 4;pool a 201 x", 16, 2);
        bad("blocks 4;pool a x;pool a 201 1", 16, 1);
        bad("blocks 4;pool a 1 1;pool a 201", 25, 3);
        bad("blocks 4;grant a 0;?", 15, 3);
        bad(manyPools(7) + ";pool free 201 x", manyPools(7).length() + 1, 4);
        Doc.section(1, "Error 1: a byte or a word cannot stand at its place (position of the byte or of"
                + " the word's first byte)");
        bad("block 4", 0, 1);
        bad("  clocks 4", 2, 1);
        bad("blocks four", 7, 1);
        bad("blocks 4;  pools a 1 1", 11, 1);
        bad("blocks 4;5", 9, 1);
        bad("blocks 4;move 1 a free 1", 9, 1);
        bad("blocks 4,", 8, 1);
        bad("blocks 4;pool a 1;", 17, 1);
        bad("blocks 4;pool;", 13, 1);
        bad("blocks 4;pool a 1 1 pick", 20, 1);
        bad("blocks 4;pick lowest highest", 21, 1);
        bad("blocks 4;pool a 1 1;grant a a", 28, 1);
        bad("blocks 4;pool a 1 1;grant 1 a", 26, 1);
        Doc.section(1, ", or the text ends too early (position: its length).");
        String whole = "blocks 4;pool a 1 1;pick lowest;grant a 1";
        for (int length : new int[] {0, 6, 7, 9, 13, 14, 15, 16, 17, 18, 20, 24, 25, 32, 37, 38, 39, 40}) {
            bad(whole.substring(0, length), length, 1);
        }
        bad("blocks   ", 9, 1);
        Run.fresh().refused("load()", "blocks 4;" + " ".repeat(300), -100 - 309, 1);
        Run.fresh().typed("blocks" + " ".repeat(494)).due("load()", -600).due("textError()", 1);
    }

    private static void errors2To4() {
        Doc.section(1, "Error 2: a number is out of its range (position of its first digit).");
        bad("blocks   000201", 9, 2);
        bad("blocks 00", 7, 2);
        bad("blocks 4294967300", 7, 2);
        bad("blocks 2147483648", 7, 2);
        bad("blocks 18446744073709551620", 7, 2);
        bad("blocks 10000000000000000000000000000000004", 7, 2);
        bad("blocks 4;pool a 256 1", 16, 2);
        bad("blocks 4;pool a 1 65536", 18, 2);
        bad("blocks 4;pool a 4 1;grant a 4294967297", 28, 2);
        good("blocks 4;pool a 0000000200 0000000009999", 2);
        Doc.section(1, "Error 3: a new name that another pool of the text has already");
        bad("blocks 4;pool a 1 1;pool a 1 1", 25, 3);
        bad("blocks 4;pool abcdef 1 1;pool b 1 1;pool   abcdef", 43, 3);
        // A name of the ledger that is still there is free again, for it is not of the text.
        Run.of("blocks 4;pool a 1 1").loads("blocks 4;pool a 1 1", 2);
        Doc.section(1, ", or a name of no pool where one is required (position of the name");
        bad("blocks 4;grant a 1", 15, 3);
        bad("blocks 4;pool ab 1 1;grant   a 1", 29, 3);
        bad("blocks 4;pool a 1 1;grant ab 1", 26, 3);
        bad("blocks 4;pool a 1 1;grant b 1;pool b 1 1", 26, 3);
        Doc.section(1, "; a word of more than 6 letters, and free in grant, are names of no pool).");
        bad("blocks 4;pool abcdef 1 1;grant abcdefg 1", 31, 3);
        good("blocks 4;pool abcdef 1 1;grant abcdef 1", 2);
        bad("blocks 4;pool a 1 1;grant free 1", 26, 3);
        Doc.section(1, "Error 4: an eighth pool (position of the word pool).");
        String seven = manyPools(7);
        good(seven, 8);
        bad(seven + ";  pool h 1 0", seven.length() + 3, 4);
        bad(seven + ";pool", seven.length() + 1, 4);
        bad(seven + ";pool a 1 0", seven.length() + 1, 4);
        good(seven + ";pick highest;grant g 1", 8);
    }

    // ---- promises 1 to 8 ----

    private static void newObject() {
        Doc.promise(1, "Creates a ledger of 10 blocks, all of which are free");
        Run.fresh().due("blockCount()", 10).due("poolCount()", 1).map("0000000000")
                .still("poolOf(10)", INDEX).due("balance(0)", 10).due("entryCount()", 0)
                .due("reservationCount()", 0).due("now()", 0).due("totalRent()", 0f);
        Doc.promise(1, ", with an empty input buffer");
        Run.fresh().due("appendByte(97)", 1);
        Run.fresh().refused("load()", "", -100, 1);
        Doc.promise(1, " and no snapshots.");
        Run.fresh().still("restoreSnapshot(0)", NONE).still("restoreSnapshot(1)", NONE);
    }

    private static void appendByte() {
        Doc.promise(2, "Appends a byte to the input buffer.");
        Run.fresh().typed("fre").due("appendByte(101)", 4).due("poolNamed()", 0);
        Doc.promise(2, "`value`: the byte, 0 to 255");
        Run.fresh().typed("blocks 5").due("appendByte(0)", 9).due("load()", -108);
        Run.fresh().typed("blocks 5").due("appendByte(255)", 9).due("load()", -108);
        Doc.promise(2, "Returns the new length of the buffer");
        Run run = Run.fresh();
        for (int length = 1; length <= 500; length++) {
            run.due("appendByte(32)", length);
        }
        run.does("poolCount()").due("poolNamed()", NONE).due("appendByte(32)", 1);
        Doc.promise(2, "; FULL if it holds 500 bytes.");
        Run.fresh().typed(FULL_TEXT.substring(1)).due("appendByte(32)", 500)
                .due("appendByte(120)", FULL).due("appendByte(120)", FULL).due("load()", -100);
        Run.fresh().typed(FULL_TEXT).due("appendByte(120)", FULL).due("load()", 1)
                .due("blockCount()", 7).due("appendByte(120)", 1);
        Doc.promise(2, "Throws `IllegalArgumentException` if value is out of range");
        refusedWith(Run.fresh(), "appendByte(#)", outside(0, 255), ARGUMENT);
        // Not even the byte that the lowest eight bits would be is appended.
        Run.fresh().still("appendByte(357)", ARGUMENT).still("appendByte(-155)", ARGUMENT);
        Run.fresh().typed(FULL_TEXT).due("appendByte(256)", ARGUMENT).due("load()", 1);
    }

    private static void load() {
        Doc.promise(3, "Reads the input buffer as a description (section 1) and begins a new ledger at"
                + " time 0.");
        Run used = pools().does("advance(3)", "transfer(0, 1, 1, 0)", "reserve(0, 2, 1, 5)",
                "checkpoint()", "corrupt(9, 1)", "setPick(2)");
        used.loads("blocks 5;pool c 1 1", 2).sameAs(Run.of("blocks 5;pool c 1 1"));
        used.due("now()", 0).still("entryValue(0, 0)", INDEX).still("reservationValue(0, 0)", INDEX)
                .still("auditSet(0, 0)", ARGUMENT);
        Doc.promise(3, "The buffer is emptied, also on an error.");
        Run.fresh().loads("blocks 5", 1).due("appendByte(97)", 1);
        Run.fresh().refused("load()", "blocks 0", -107, 2).due("appendByte(97)", 1);
        Doc.promise(3, "The snapshots stay.");
        pools().does("advance(7)", "saveSnapshot(0)", "advance(1)", "saveSnapshot(1)")
                .loads("blocks 5", 1).due("restoreSnapshot(0)", 7).map("1112200000")
                .due("restoreSnapshot(1)", 8).map("1112200000");
        Doc.promise(3, "Returns the number of pools");
        good("blocks 5", 1);
        good("blocks 5;pool a 1 1", 2);
        good(manyPools(7), 8);
        Doc.promise(3, "; -100 minus the position of the error if the text has one");
        Run.fresh().refused("load()", "?", -100, 1).refused("load()", " ?", -101, 1);
        Run.fresh().typed(FULL_TEXT.substring(1)).typed("?").due("load()", -100);
        Run.fresh().typed("blocks 7" + " ".repeat(491) + "?").due("load()", -599);
        Run.fresh().typed("blocks 7" + " ".repeat(491) + ";").due("load()", -600);
        Doc.promise(3, ", and then the ledger stays as it is.");
        Run.of("blocks 6;pool a 4 100;grant a 2;pick oldest")
                .does("advance(7)", "reserve(0, 1, 1, 9)", "checkpoint()", "saveSnapshot(1)")
                .refused("load()", "blocks 9;pool b 9 1;grant b 5;pick highest;", -100 - 43, 1)
                .due("blockCount()", 6).due("rent(1)", 14f).due("setPick(0)", 2);
    }

    private static void loadAgain() {
        // However often: no ledger may show anything of those that were before it.
        String[] texts = {"blocks 8;pool a 4 100;grant a 3", "blocks 5;pool c 9 7;pick highest;grant c 2",
            "blocks 3;pool b 3 0"};
        String[][] uses = {
            {"reserve(0, 1, 1, 2)", "advance(3)", "transfer(1, 0, 2, 1)", "checkpoint()", "setPick(2)"},
            {"transfer(0, 1, 1, 4)", "reserve(1, 0, 1, 9)", "release(0)", "reverse(0)"},
            {"checkpoint()", "corrupt(2, 1)", "reconcile()", "reserve(1, 0, 1, 9)", "advance(1)"}};
        Doc.promise(3, "begins a new ledger at time 0.");
        Run run = Run.fresh();
        for (int round = 0; round < 6; round++) {
            Run only = Run.of(texts[round % 3]);
            run.typed(texts[round % 3]).does("load()").sameAs(only);
            run.does(uses[round % 3]).sameAs(only.does(uses[round % 3]));
        }
    }

    private static void textError() {
        Doc.promise(4, "Returns the kind of the error of the latest call of load() or batch().");
        Run.fresh().refused("load()", "blocks 0", -107, 2).refused("batch()", "wait", -104, 1)
                .due("textError()", 1).refused("load()", "blocks 4;grant a 1", -115, 3)
                .does("advance(1)", "saveSnapshot(0)").due("poolNamed()", NONE)
                .due("restoreSnapshot(1)", NONE).does("restoreSnapshot(0)").due("textError()", 3);
        Doc.promise(4, "Returns 1 to 4 (section 1)");
        Run.fresh().refused("load()", "?", -100, 1).refused("load()", "blocks 201", -107, 2)
                .refused("load()", "blocks 4;grant b 1", -115, 3)
                .refused("load()", manyPools(8), -100 - manyPools(7).length() - 1, 4);
        Doc.promise(4, "; 0 if the text had no error or there was no such call.");
        Run.fresh().due("textError()", 0).does("advance(1)").due("textError()", 0);
        Run.fresh().refused("load()", "?", -100, 1).loads("blocks 4", 1).due("textError()", 0);
        Run.fresh().refused("load()", "?", -100, 1).batches("wait 1", 1).due("textError()", 0);
        Run.fresh().refused("load()", "?", -100, 1).refused("batch()", "back 0", -1000, 0);
    }

    private static void poolNamed() {
        Doc.promise(5, "Reads the input buffer as a name, without anything else, and looks up the pool.");
        Run run = Run.of("blocks 5;pool a 5 0;pool ab 5 0;pool abcdef 5 0");
        for (String text : List.of(" a", "a ", "a;", "ab 1", "a1", "A", "a" + (char) 0)) {
            run.typed(text).due("poolNamed()", NONE);
        }
        Doc.promise(5, "The buffer is emptied in every case.");
        run.typed("ab").due("poolNamed()", 2).due("appendByte(120)", 1);
        run.due("poolNamed()", NONE).due("appendByte(97)", 1).due("poolNamed()", 1);
        Doc.promise(5, "Returns the pool");
        run.typed("free").due("poolNamed()", 0).typed("abcdef").due("poolNamed()", 3);
        Doc.promise(5, "; NONE if there is no pool with that name.");
        run.due("poolNamed()", NONE);
        for (String name : List.of("b", "abc", "abcde", "abcdefg", "fre", "frees", "blocks")) {
            run.typed(name).due("poolNamed()", NONE);
        }
        Run.fresh().typed("a").due("poolNamed()", NONE);
        Run.fresh().typed("a".repeat(500)).due("poolNamed()", NONE).due("appendByte(97)", 1);
    }

    private static void counts() {
        Doc.promise(6, "Returns the number of blocks.");
        Run.of("blocks 17;pool a 5 0;grant a 4").still("blockCount()", 17);
        Doc.promise(6, "Returns 1 to 200.");
        Run.of("blocks 1").still("blockCount()", 1);
        Run.of("blocks 200").due("blockCount()", 200);
        Doc.promise(7, "Returns the number of pools, free included.");
        Run.of("blocks 17;pool a 5 0;grant a 4").still("poolCount()", 2);
        Doc.promise(7, "Returns 1 to 8.");
        Run.fresh().still("poolCount()", 1);
        Run.of(manyPools(7)).still("poolCount()", 8);
    }

    private static void nameByte() {
        Doc.promise(8, "Returns a byte of the name of a pool.");
        Run run = Run.of("blocks 5;pool quartz 5 0;pool z 5 0");
        run.due("nameByte(0, 0)", (int) 'f').due("nameByte(1, 1)", (int) 'u');
        Doc.promise(8, "`index`: the index of the byte, from 0");
        run.still("nameByte(1, 0)", (int) 'q').still("nameByte(2, 0)", (int) 'z');
        Doc.promise(8, "Returns the byte");
        run.due("nameByte(0, 3)", (int) 'e').due("nameByte(1, 5)", (int) 'z');
        Doc.promise(8, "; NONE if there is no such index.");
        refusedWith(run, "nameByte(0, #)", outside(4), NONE);
        refusedWith(run, "nameByte(1, #)", outside(6), NONE);
        refusedWith(run, "nameByte(2, #)", outside(1), NONE);
        Doc.promise(8, NO_POOL);
        refusedWith(run, "nameByte(#, 0)", outside(3), INDEX);
        refusedWith(Run.fresh(), "nameByte(#, 9)", outside(1), INDEX);
        refusedWith(Run.of(manyPools(7)), "nameByte(#, 0)", outside(8), INDEX);
    }
}
