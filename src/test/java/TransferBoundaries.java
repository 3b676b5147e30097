/** Sections 2 and 3 of the description, and promises 9 to 14 and 20 to 24. */
final class TransferBoundaries extends Boundaries {
    private TransferBoundaries() {
    }

    static void test() {
        entries();
        availableAndRoom();
        lowestAndHighest();
        oldest();
        fitting();
        runsAndReservations();
        time();
        setPick();
        transfer();
        transferErrors();
        transferBlock();
        transferBlockErrors();
        reverse();
        reverseErrors();
        balances();
        availableAnswers();
        largestTransfer();
    }

    // ---- sections 2 and 3 ----

    private static void entries() {
        Doc.section(2, "An entry has a pool from which and a pool to which blocks went, their number, a"
                + " reason (0 to 9), a time, and a kind: transfer, reversal or adjustment.");
        pools().does("advance(3)", "transfer(0, 2, 1, 0)", "transfer(2, 0, 1, 9)", "reverse(3)",
                "corrupt(9, 1)", "reconcile()").entry(2, "0 2 1 0 3 0 -1").entry(3, "2 0 1 9 3 0 4")
                .entry(4, "0 2 1 9 3 1 3").entry(5, "0 1 1 0 3 2 -1");
        Doc.section(2, "There are at most 300 entries, numbered from 0.");
        Run.fresh().still("entryValue(0, 0)", INDEX);
        Run first = Run.of("blocks 4;pool a 4 0");
        first.due("transfer(0, 1, 1, 0)", 0);
        Run last = journal(299);
        last.still("entryValue(299, 0)", INDEX).due("transfer(1, 0, 1, 0)", 299);
        last.due("entryValue(299, 0)", 1).still("transfer(0, 1, 1, 0)", FULL)
                .still("entryValue(300, 0)", INDEX).due("entryCount()", 300);
        Doc.section(2, "The balance of a pool by the journal is 0 (for free: the number of all blocks),"
                + " plus the numbers of all entries to it, minus those of all entries from it.");
        Run.of("blocks 9;pool a 9 0").due("booked(0)", 9).due("booked(1)", 0);
        pools().due("booked(0)", 5).due("booked(1)", 3).does("transfer(1, 2, 3, 0)").due("booked(1)", 0)
                .due("booked(2)", 5).does("reverse(2)").due("booked(1)", 3).does("corrupt(0, 2)")
                .due("booked(1)", 3).does("reconcile()").due("booked(1)", 2).due("booked(2)", 3);
        Doc.section(2, "The balance on the map is the number of blocks that are in the pool.");
        pools().due("balance(0)", 5).due("balance(1)", 3).does("corrupt(0, 2)").due("balance(1)", 2)
                .due("balance(2)", 3).due("booked(2)", 2);
    }

    private static void availableAndRoom() {
        Doc.section(3, "The blocks of a pool that are available are its balance on the map minus the"
                + " numbers of all pending reservations from it.");
        Run run = pools().does("reserve(1, 2, 2, 9)", "reserve(1, 0, 1, 5)").due("available(1)", 0);
        run.due("available(2)", 2).does("advance(4)").due("available(1)", 0);
        run.does("advance(1)").due("available(1)", 1).does("corrupt(0, 0)").due("available(1)", 0);
        run.does("release(0)").due("available(1)", 2);
        Doc.section(3, "The room of a pool is QUOTA minus its balance on the map minus the numbers of"
                + " all pending reservations to it");
        Run room = pools().does("reserve(1, 2, 2, 9)", "reserve(0, 2, 1, 5)").due("room(2)", 0);
        room.due("room(1)", 1).does("advance(5)").due("room(2)", 1).does("corrupt(9, 2)");
        room.due("room(2)", 0).does("release(0)").due("room(2)", 2);
        Doc.section(3, "; for free, the number of all blocks stands in place of QUOTA.");
        Run.of("blocks 5;pool a 5 0;grant a 4").due("room(0)", 4).due("transfer(1, 0, 4, 0)", 1)
                .due("room(0)", 0);
        Run.of("blocks 5;pool a 5 0;grant a 4").does("reserve(1, 0, 3, 9)").due("room(0)", 1);
        Run.of("blocks 5").due("room(0)", 0);
    }

    /** A ledger whose blocks are in the pools of the text, a digit a block, by errors of the map. */
    private static Run mapped(String map) {
        return MapBoundaries.mapped(map);
    }

    private static void lowestAndHighest() {
        Doc.section(3, "A transfer picks count blocks of the pool");
        Run.of("blocks 6;pool a 6 0").due("transfer(0, 1, 1, 0)", 0).map("100000");
        Run.of("blocks 6;pool a 6 0").due("transfer(0, 1, 6, 0)", 0).map("111111");
        Doc.section(3, "; they are in the other pool since the present time.");
        Run.of("blocks 3;pool a 3 0").does("advance(7)", "transfer(0, 1, 2, 0)").due("since(0)", 7)
                .due("since(1)", 7).due("since(2)", 0).does("advance(1)", "transfer(1, 0, 1, 0)")
                .due("since(0)", 8).due("since(1)", 7);
        Doc.section(3, "Lowest: the blocks with the smallest numbers.");
        mapped("0110110").does("setPick(0)").picks(1, 1, "1").picks(1, 3, "1 2 4").picks(1, 4, "1 2 4 5")
                .does("transfer(1, 2, 3, 0)").map("0220210");
        Doc.section(3, "Highest: those with the greatest numbers.");
        mapped("0110110").does("setPick(1)").picks(1, 1, "5").picks(1, 3, "2 4 5").picks(1, 4, "1 2 4 5")
                .does("transfer(1, 2, 3, 0)").map("0120220");
        mapped("1010").does("setPick(1)").picks(1, 2, "0 2");
        Run.of("blocks 200;pick highest").due("wouldPick(0, 1, 0)", 199).due("wouldPick(0, 200, 0)", 0);
    }

    private static void oldest() {
        Doc.section(3, "Oldest: those that have been in the pool since the smallest times");
        Run run = mapped("000011").does("setPick(2)", "advance(1)", "corrupt(2, 1)", "advance(1)",
                "corrupt(1, 1)", "advance(1)", "corrupt(0, 1)");
        run.picks(1, 3, "2 4 5").picks(1, 4, "1 2 4 5").picks(1, 5, "0 1 2 4 5");
        // A block that comes again is young again.
        run.does("advance(1)", "transferBlock(4, 0, 0)", "transferBlock(4, 1, 0)");
        run.picks(1, 1, "5").picks(1, 4, "0 1 2 5");
        Run.of("blocks 200;pick oldest").does("advance(1)", "corrupt(0, 0)").due("wouldPick(0, 199, 0)", 1)
                .due("wouldPick(0, 200, 0)", 0).due("wouldPick(0, 200, 199)", 199);
        // As many times as there are blocks.
        Run many = Run.of("blocks 200;pick oldest");
        for (int block = 198; block >= 0; block--) {
            many.does("advance(1)", "corrupt(" + block + ", 0)");
        }
        many.due("wouldPick(0, 1, 0)", 199).due("wouldPick(0, 199, 0)", 1).due("wouldPick(0, 200, 0)", 0);
        Doc.section(3, ", of equal times the smallest numbers.");
        mapped("0101011").does("setPick(2)").picks(1, 1, "1").picks(1, 2, "1 3").picks(1, 3, "1 3 5");
        mapped("0001010").does("advance(1)", "corrupt(1, 1)", "corrupt(2, 1)", "setPick(2)")
                .picks(1, 3, "1 3 5").does("transfer(1, 2, 3, 0)").map("0212020");
    }

    private static void fitting() {
        Doc.section(3, "Fitting: the first count blocks of the shortest run of the pool that has at"
                + " least count blocks");
        Run run = mapped("1111011101100").does("setPick(3)");
        run.picks(1, 1, "9").picks(1, 2, "9 10").picks(1, 3, "5 6 7").picks(1, 4, "0 1 2 3");
        run.does("transfer(1, 2, 1, 0)").map("1111011102100");
        mapped("0111001111").does("setPick(3)").picks(1, 2, "1 2").picks(1, 4, "6 7 8 9");
        Run.of("blocks 200;pool a 9 0;pick fitting").does("transferBlock(198, 1, 0)")
                .due("wouldPick(0, 1, 0)", 199).due("wouldPick(0, 198, 197)", 197)
                .due("wouldPick(0, 199, 198)", 199);
        Doc.section(3, ", of several the first one");
        mapped("0110110110").does("setPick(3)").picks(1, 1, "1").picks(1, 2, "1 2");
        mapped("1110110011").does("setPick(3)").picks(1, 2, "4 5");
        Doc.section(3, "; if there is none, as with lowest.");
        mapped("0110111").does("setPick(3)").picks(1, 4, "1 2 4 5").picks(1, 5, "1 2 4 5 6")
                .does("transfer(1, 2, 4, 0)").map("0220221");
        mapped("10101").does("setPick(3)").picks(1, 2, "0 2");
    }

    private static void runsAndReservations() {
        Doc.section(3, "(A run is a maximal row of successive blocks that are in the pool.)");
        mapped("1101211").due("runCount(1)", 3).due("longestRun(1)", 2);
        mapped("1111111").due("runCount(1)", 1).due("longestRun(1)", 7);
        // The last block and the first one are no neighbours.
        mapped("1000011").due("runCount(1)", 2).due("longestRun(1)", 2);
        Doc.section(3, "Reservations do not reserve certain blocks.");
        Run run = mapped("1110000").does("reserve(1, 2, 2, 9)");
        run.due("transferBlock(0, 0, 0)", 0).still("transferBlock(1, 0, 0)", NOT_ENOUGH);
        run.does("corrupt(6, 1)", "setPick(1)").due("commit(0, 0)", 1).map("0120002");
    }

    // ---- promises 9 to 11 ----

    private static void time() {
        Doc.promise(9, "Returns the time.");
        Run.fresh().still("now()", 0).does("advance(7)").still("now()", 7);
        Doc.promise(10, "Lets time pass: rents are charged and reservations expire (section 4).");
        pools().does("reserve(0, 1, 1, 2)", "advance(2)").due("now()", 2)
                .due("rent(1)", 0f + 100 / 100f * (3 * 2)).due("reservationValue(0, 4)", 3);
        Doc.promise(10, "`ticks`: 1 to 1000");
        Run.fresh().due("advance(1)", 0).due("now()", 1).due("advance(1000)", 0).due("now()", 1001);
        Doc.promise(10, "Returns the number of reservations that expired");
        pools().does("reserve(0, 1, 1, 5)", "reserve(0, 2, 1, 6)", "reserve(0, 2, 1, 6)",
                "reserve(0, 2, 1, 6)", "release(3)").due("advance(4)", 0).due("advance(1)", 1)
                .due("advance(9)", 2).due("advance(9)", 0);
        Doc.promise(10, "; FULL if the time would be greater than 1000000.");
        // 512 calls do not get there; the sentence holds for whoever makes more.
        Run end = Run.withoutLimit().typed("blocks 9;pool a 9 100;grant a 1").does("load()")
                .times(999, "advance(1000)").does("advance(999)", "reserve(0, 1, 1, 1)");
        end.still("advance(2)", FULL).still("advance(1000)", FULL).due("advance(1)", 1);
        end.still("advance(1)", FULL);
        Doc.promise(9, "Returns 0 to 1000000.");
        Run.fresh().due("now()", 0);
        end.still("now()", 1000000);
        Doc.promise(10, TICKS);
        refusedWith(pools().does("reserve(0, 1, 1, 1)"), "advance(#)", outside(1, 1000), ARGUMENT);
    }

    private static void setPick() {
        Doc.promise(11, "Sets how blocks are picked (section 3).");
        mapped("0110").does("setPick(1)").picks(1, 1, "2").does("setPick(0)").picks(1, 1, "1");
        Doc.promise(11, "`pick`: 0 lowest, 1 highest, 2 oldest, 3 fitting");
        Run ways = mapped("0110100").does("advance(1)", "corrupt(1, 1)");
        // Since 0: 2 and 4; since 1: 1. The shortest run is 4.
        ways.does("setPick(0)").picks(1, 1, "1").does("setPick(1)").picks(1, 2, "2 4");
        ways.does("setPick(2)").picks(1, 1, "2").does("setPick(3)").picks(1, 1, "4");
        Doc.promise(11, "Returns the previous way.");
        Run.fresh().due("setPick(3)", 0).due("setPick(2)", 3).due("setPick(1)", 2).due("setPick(1)", 1)
                .due("setPick(0)", 1);
        Run.of("blocks 4;pick oldest").due("setPick(0)", 2);
        Doc.promise(11, "Throws `IllegalArgumentException` if pick is out of range");
        refusedWith(Run.of("blocks 4;pick oldest"), "setPick(#)", outside(0, 3), ARGUMENT);
    }

    // ---- promises 12 to 14 ----

    private static void transfer() {
        Doc.promise(12, "Transfers blocks from one pool to another one (section 3).");
        pools().due("transfer(1, 2, 2, 4)", 2).map("2212200000").entry(2, "1 2 2 4 0 0 -1")
                .blocks(2, "0 1");
        Doc.promise(12, "`count`: 1 to 200");
        Run.of("blocks 200;pool a 200 0").due("transfer(0, 1, 1, 0)", 0).due("transfer(1, 0, 1, 0)", 1)
                .due("transfer(0, 1, 200, 0)", 2).due("balance(1)", 200);
        Doc.promise(12, "`reason`: 0 to 9");
        pools().due("transfer(0, 1, 1, 0)", 2).due("transfer(0, 2, 1, 9)", 3).due("entryValue(2, 3)", 0)
                .due("entryValue(3, 3)", 9);
        Doc.promise(12, "Returns the number of the new entry");
        Run.of("blocks 4;pool a 4 0").due("transfer(0, 1, 1, 0)", 0).due("transfer(0, 1, 1, 0)", 1);
        Doc.promise(12, ONE_POOL_MISSING);
        refusedWith(pools(), "transfer(#, 0, 1, 0)", outside(3), INDEX);
        refusedWith(pools(), "transfer(0, #, 1, 0)", outside(3), INDEX);
        Run.fresh().still("transfer(0, 1, 1, 0)", INDEX).still("transfer(1, 0, 1, 0)", INDEX);
        Doc.promise(12, "Throws `IllegalArgumentException` if both pools are the same, or count or"
                + " reason is out of range");
        pools().still("transfer(0, 0, 1, 0)", ARGUMENT).still("transfer(2, 2, 1, 0)", ARGUMENT);
        refusedWith(pools(), "transfer(0, 1, #, 0)", outside(1, 200), ARGUMENT);
        refusedWith(pools(), "transfer(0, 1, 1, #)", outside(0, 9), ARGUMENT);
        refusedWith(pools(), "transfer(2, 1, 1, #)", outside(0, 9), ARGUMENT);
    }

    private static void transferErrors() {
        Doc.promise(12, "; FULL if there are 300 entries");
        journal(299).due("transfer(1, 0, 1, 0)", 299).still("transfer(0, 1, 1, 0)", FULL);
        Doc.promise(12, "; NOT_ENOUGH if fewer blocks are available");
        pools().still("transfer(1, 0, 4, 0)", NOT_ENOUGH).still("transfer(1, 0, 200, 0)", NOT_ENOUGH)
                .due("transfer(1, 0, 3, 0)", 2).still("transfer(1, 0, 1, 0)", NOT_ENOUGH);
        Run reserved = pools().does("reserve(1, 2, 2, 5)");
        reserved.still("transfer(1, 0, 2, 0)", NOT_ENOUGH).due("transfer(1, 0, 1, 0)", 2);
        // Below 0: the reserved blocks are gone.
        reserved.does("corrupt(1, 0)", "corrupt(2, 0)").due("available(1)", -2);
        reserved.still("transfer(1, 0, 1, 0)", NOT_ENOUGH);
        Doc.promise(12, "; NO_ROOM if the other pool has not so much room.");
        pools().still("transfer(0, 1, 2, 0)", NO_ROOM).due("transfer(0, 1, 1, 0)", 2)
                .still("transfer(0, 1, 1, 0)", NO_ROOM);
        Run held = pools().does("reserve(1, 2, 2, 5)");
        held.still("transfer(0, 2, 2, 0)", NO_ROOM).due("transfer(0, 2, 1, 0)", 2);
        Run over = pools().does("corrupt(9, 1)", "corrupt(8, 1)").due("room(1)", -1);
        over.still("transfer(0, 1, 1, 0)", NO_ROOM);
        // Free is full only by reservations to it.
        Run free = Run.of("blocks 4;pool a 4 0;pool b 4 0;grant a 2;grant b 2").does(
                "reserve(1, 0, 2, 9)", "corrupt(0, 2)", "corrupt(1, 2)");
        free.still("transfer(2, 0, 3, 0)", NO_ROOM).due("transfer(2, 0, 2, 0)", 2);
    }

    private static void transferBlock() {
        Doc.promise(13, "Transfers a certain block to a pool, by an entry with this block alone.");
        pools().does("advance(6)").due("transferBlock(7, 1, 3)", 2).map("1112200100")
                .entry(2, "0 1 1 3 6 0 -1").blocks(2, "7").due("since(7)", 6).due("since(6)", 0);
        Doc.promise(13, "`reason`: 0 to 9");
        pools().due("transferBlock(9, 1, 0)", 2).due("transferBlock(8, 2, 9)", 3)
                .due("entryValue(2, 3)", 0).due("entryValue(3, 3)", 9);
        Doc.promise(13, "Returns the number of the new entry");
        Run.of("blocks 4;pool a 4 0").due("transferBlock(0, 1, 0)", 0).due("transferBlock(3, 1, 0)", 1);
        Doc.promise(13, "Throws `IndexOutOfBoundsException` if there is no such block or pool");
        refusedWith(pools(), "transferBlock(#, 1, 0)", outside(10), INDEX);
        refusedWith(pools(), "transferBlock(9, #, 0)", outside(3), INDEX);
        Run.of("blocks 200;pool a 9 0").due("transferBlock(199, 1, 0)", 0)
                .due("transferBlock(200, 1, 0)", INDEX);
        Doc.promise(13, REASON);
        refusedWith(pools(), "transferBlock(9, 1, #)", outside(0, 9), ARGUMENT);
    }

    private static void transferBlockErrors() {
        Doc.promise(13, "; FULL if there are 300 entries");
        journal(299).due("transferBlock(3, 1, 0)", 299).still("transferBlock(2, 1, 0)", FULL);
        Doc.promise(13, "; WRONG_STATE if the block is in this pool already");
        pools().still("transferBlock(0, 1, 0)", WRONG_STATE).still("transferBlock(9, 0, 0)", WRONG_STATE)
                .does("corrupt(9, 1)").still("transferBlock(9, 1, 0)", WRONG_STATE);
        Doc.promise(13, "; NOT_ENOUGH if no block of its pool is available");
        Run reserved = pools().does("reserve(1, 2, 2, 5)");
        reserved.due("transferBlock(2, 0, 0)", 2).still("transferBlock(0, 0, 0)", NOT_ENOUGH);
        reserved.does("corrupt(1, 0)").still("transferBlock(0, 0, 0)", NOT_ENOUGH);
        reserved.does("release(0)").due("transferBlock(0, 0, 0)", 3);
        Doc.promise(13, "; NO_ROOM if the other pool has no room.");
        pools().due("transferBlock(9, 1, 0)", 2).still("transferBlock(8, 1, 0)", NO_ROOM);
        pools().does("reserve(0, 1, 1, 2)").still("transferBlock(9, 1, 0)", NO_ROOM)
                .does("advance(2)").due("transferBlock(9, 1, 0)", 2);
        pools().does("corrupt(9, 1)", "corrupt(8, 1)").still("transferBlock(7, 1, 0)", NO_ROOM);
    }

    private static void reverse() {
        Doc.promise(14, "Reverses a transfer: the same blocks go back, by a new entry with the same"
                + " reason.");
        Run run = pools().does("setPick(1)", "transfer(1, 2, 2, 8)", "advance(5)", "setPick(0)");
        run.due("reverse(2)", 3).map("1112200000").entry(3, "2 1 2 8 5 1 2").entry(2, "1 2 2 8 0 0 3");
        run.blocks(3, "1 2").due("since(1)", 5).due("since(0)", 0);
        Doc.promise(14, "Returns the number of the new entry");
        pools().due("reverse(1)", 2).due("reverse(0)", 3).map("0000000000");
        Doc.promise(14, NO_ENTRY);
        refusedWith(pools(), "reverse(#)", outside(2), INDEX);
        Run.fresh().still("reverse(0)", INDEX);
        // Nor may an entry of an earlier ledger be found behind the last one.
        pools().loads("blocks 9;pool a 9 0;grant a 1", 2).still("reverse(1)", INDEX);
    }

    private static void reverseErrors() {
        Doc.promise(14, "; FULL if there are 300 entries");
        journal(299).due("reverse(298)", 299).still("reverse(297)", FULL);
        Doc.promise(14, "; WRONG_STATE if the entry is no transfer");
        pools().does("reverse(1)").still("reverse(2)", WRONG_STATE);
        pools().does("corrupt(9, 1)", "reconcile()").still("reverse(2)", WRONG_STATE);
        Doc.promise(14, " or was reversed already");
        pools().does("reverse(1)").still("reverse(1)", WRONG_STATE)
                .does("transfer(0, 2, 2, 0)").still("reverse(1)", WRONG_STATE);
        Doc.promise(14, "; MOVED if one of its blocks is not in the pool to which it was transferred");
        Run moved = pools().does("transferBlock(1, 2, 0)").still("reverse(0)", MOVED);
        moved.does("transferBlock(1, 1, 0)").due("reverse(0)", 4);
        pools().does("corrupt(0, 0)").still("reverse(0)", MOVED);
        pools().does("corrupt(2, 2)").still("reverse(0)", MOVED);
        pools().does("swap(2, 9)").still("reverse(0)", MOVED).does("swap(9, 2)").due("reverse(0)", 2);
        Doc.promise(14, "; NOT_ENOUGH if fewer blocks are available there");
        Run less = pools().does("reserve(1, 2, 1, 3)").still("reverse(0)", NOT_ENOUGH);
        less.does("advance(3)").due("reverse(0)", 2);
        pools().does("transfer(0, 1, 1, 0)", "reserve(1, 2, 1, 3)").due("reverse(0)", 3);
        Doc.promise(14, "; NO_ROOM if the pool from which they came has not so much room.");
        Run room = pools().does("transfer(1, 2, 2, 0)", "reserve(0, 1, 2, 3)");
        room.still("reverse(2)", NO_ROOM).does("advance(3)").due("reverse(2)", 3);
        pools().does("transfer(1, 2, 2, 0)", "reserve(0, 1, 1, 3)").due("reverse(2)", 3);
        pools().does("transfer(1, 2, 2, 0)", "corrupt(8, 1)", "corrupt(9, 1)").still("reverse(2)", NO_ROOM);
    }

    // ---- promises 20 to 24 ----

    private static void balances() {
        Doc.promise(20, "Returns how many blocks of the map are in a pool.");
        pools().still("balance(1)", 3).does("corrupt(9, 1)").still("balance(1)", 4);
        Doc.promise(20, "Returns the number of blocks.");
        Run.of("blocks 200;pool a 200 0;grant a 200").due("balance(1)", 200).due("balance(0)", 0);
        Doc.promise(20, NO_POOL);
        refusedWith(pools(), "balance(#)", outside(3), INDEX);
        refusedWith(Run.fresh(), "balance(#)", outside(1), INDEX);
        Doc.promise(21, "Returns the balance of a pool by the journal (section 2).");
        pools().still("booked(1)", 3).does("corrupt(9, 1)").still("booked(1)", 3)
                .does("transfer(1, 2, 2, 0)").still("booked(1)", 1).still("booked(2)", 4);
        Doc.promise(21, "Returns the number of blocks, which may be negative.");
        pools().does("transfer(1, 0, 3, 0)").due("booked(1)", 0).does("corrupt(9, 1)", "corrupt(8, 1)",
                "transfer(1, 0, 2, 0)").still("booked(1)", -2).due("booked(0)", 10);
        Run.of("blocks 200;pool a 200 0").does("corrupt(0, 1)", "transfer(1, 0, 1, 0)")
                .due("booked(0)", 201).due("booked(1)", -1);
        Doc.promise(21, NO_POOL);
        refusedWith(pools(), "booked(#)", outside(3), INDEX);
    }

    private static void availableAnswers() {
        Doc.promise(22, "Returns how many blocks of a pool are available (section 3).");
        pools().still("available(1)", 3).does("reserve(1, 2, 3, 9)").still("available(1)", 0);
        Doc.promise(22, "Returns the number of blocks, which may be negative.");
        pools().does("reserve(1, 2, 3, 9)", "corrupt(0, 0)", "corrupt(1, 0)", "corrupt(2, 0)")
                .still("available(1)", -3);
        Doc.promise(22, NO_POOL);
        refusedWith(pools(), "available(#)", outside(3), INDEX);
        Doc.promise(23, "Returns how much room a pool has (section 3).");
        pools().still("room(1)", 1).does("reserve(0, 1, 1, 9)").still("room(1)", 0).still("room(0)", 5);
        Doc.promise(23, "Returns the number of blocks, which may be negative.");
        pools().does("reserve(0, 1, 1, 9)", "corrupt(9, 1)", "corrupt(8, 1)").still("room(1)", -2);
        Run.of("blocks 4;pool a 4 0;grant a 2").does("reserve(1, 0, 2, 9)", "corrupt(0, 0)",
                "corrupt(1, 0)").still("room(0)", -2);
        Doc.promise(23, NO_POOL);
        refusedWith(pools(), "room(#)", outside(3), INDEX);
    }

    private static void largestTransfer() {
        Doc.promise(24, "Returns how many blocks could be transferred at most.");
        Run run = pools().still("largestTransfer(0, 1)", 1).still("largestTransfer(1, 2)", 3);
        run.still("transfer(1, 2, 4, 0)", NOT_ENOUGH).still("transfer(0, 1, 2, 0)", NO_ROOM);
        run.does("reserve(1, 2, 1, 9)").due("largestTransfer(1, 2)", 2).due("transfer(1, 2, 2, 0)", 2);
        Run.of("blocks 200;pool a 200 0").due("largestTransfer(0, 1)", 200)
                .due("largestTransfer(1, 0)", 0);
        Doc.promise(24, "Returns the number of blocks, 0 or more.");
        pools().does("transfer(0, 1, 1, 0)").still("largestTransfer(0, 1)", 0);
        pools().does("corrupt(8, 1)", "corrupt(9, 1)").still("largestTransfer(0, 1)", 0);
        pools().does("reserve(1, 2, 3, 9)", "corrupt(0, 0)").due("available(1)", -1)
                .still("largestTransfer(1, 0)", 0);
        Doc.promise(24, ONE_POOL_MISSING);
        refusedWith(pools(), "largestTransfer(#, 0)", outside(3), INDEX);
        refusedWith(pools(), "largestTransfer(0, #)", outside(3), INDEX);
        Doc.promise(24, "Throws `IllegalArgumentException` if both pools are the same");
        pools().still("largestTransfer(0, 0)", ARGUMENT).still("largestTransfer(2, 2)", ARGUMENT);
        Run.fresh().still("largestTransfer(0, 0)", ARGUMENT);
    }
}
