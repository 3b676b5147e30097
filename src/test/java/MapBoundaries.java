/** Promises 25 to 33: the map, picking, runs and exchanges. */
final class MapBoundaries extends Boundaries {
    private MapBoundaries() {
    }

    static void test() {
        poolOfAndSince();
        blockAt();
        wouldPick();
        runs();
        fragmentation();
        swap();
        bestSwap();
        bestSwapOfSeveral();
    }

    /** A ledger whose blocks are in the pools of the text, a digit a block, by errors of the map. */
    static Run mapped(String map) {
        Run run = Run.of("blocks " + map.length() + ";pool a 200 0;pool b 200 0");
        for (int block = 0; block < map.length(); block++) {
            if (map.charAt(block) != '0') {
                run.does("corrupt(" + block + ", " + map.charAt(block) + ")");
            }
        }
        return run;
    }

    private static void poolOfAndSince() {
        Doc.promise(25, "Returns the pool of a block.");
        pools().still("poolOf(0)", 1).still("poolOf(3)", 2);
        Doc.promise(25, "Returns the pool.");
        pools().due("poolOf(2)", 1).due("poolOf(5)", 0).due("poolOf(9)", 0);
        Run.of(manyPools(7)).does("corrupt(7, 7)").due("poolOf(7)", 7);
        Doc.promise(25, NO_BLOCK);
        refusedWith(pools(), "poolOf(#)", outside(10), INDEX);
        refusedWith(Run.of("blocks 1"), "poolOf(#)", outside(1), INDEX);
        refusedWith(Run.of("blocks 200"), "poolOf(#)", outside(200), INDEX);
        Doc.promise(26, "Returns the time since which a block has been in its pool.");
        pools().does("advance(3)", "transferBlock(9, 1, 0)").still("since(9)", 3).still("since(8)", 0);
        Doc.promise(26, "Returns the time.");
        pools().due("since(0)", 0).does("advance(1000)", "transfer(1, 2, 1, 0)").due("since(0)", 1000)
                .does("advance(1)", "reverse(2)").due("since(0)", 1001).due("since(1)", 0);
        Doc.promise(26, NO_BLOCK);
        refusedWith(pools(), "since(#)", outside(10), INDEX);
        refusedWith(Run.of("blocks 1"), "since(#)", outside(1), INDEX);
        refusedWith(Run.of("blocks 200"), "since(#)", outside(200), INDEX);
    }

    private static void blockAt() {
        Run run = mapped("0120110");
        Doc.promise(27, "Returns a block of a pool.");
        run.still("blockAt(2, 0)", 2).still("blockAt(0, 1)", 3);
        Doc.promise(27, "`index`: the index among the blocks of the pool in ascending order, from 0");
        run.due("blockAt(1, 0)", 1).due("blockAt(1, 1)", 4).due("blockAt(1, 2)", 5);
        Doc.promise(27, "Returns the block");
        run.due("blockAt(0, 0)", 0).due("blockAt(0, 2)", 6);
        Run.of("blocks 200").due("blockAt(0, 199)", 199).due("blockAt(0, 200)", NONE);
        Doc.promise(27, "; NONE if there is no such index.");
        refusedWith(run, "blockAt(1, #)", outside(3), NONE);
        refusedWith(run, "blockAt(0, #)", outside(3), NONE);
        refusedWith(Run.of("blocks 3;pool a 3 0"), "blockAt(1, #)", outside(0), NONE);
        Doc.promise(27, NO_POOL);
        refusedWith(run, "blockAt(#, 0)", outside(3), INDEX);
    }

    private static void wouldPick() {
        Run run = mapped("0110110");
        Doc.promise(28, "Returns a block that would be picked from a pool (section 3).");
        run.does("setPick(1)").still("wouldPick(1, 1, 0)", 5).does("setPick(0)")
                .still("wouldPick(1, 1, 0)", 1);
        Doc.promise(28, "`count`: 1 to 200");
        run.due("wouldPick(1, 1, 0)", 1);
        Run.of("blocks 200").due("wouldPick(0, 200, 199)", 199).due("wouldPick(0, 200, 200)", NONE);
        Doc.promise(28, "`index`: the index among the picked blocks in ascending order, from 0");
        run.picks(1, 3, "1 2 4").does("setPick(1)").picks(1, 3, "2 4 5").does("setPick(0)");
        Doc.promise(28, "Returns the block");
        run.due("wouldPick(1, 4, 0)", 1).due("wouldPick(1, 4, 3)", 5);
        // What is reserved does not matter, for it is no certain block.
        run.does("reserve(1, 2, 4, 9)").due("wouldPick(1, 4, 3)", 5);
        Doc.promise(28, "; NONE if the pool has fewer than count blocks");
        for (int way = 0; way < 4; way++) {
            run.does("setPick(" + way + ")").due("wouldPick(1, 4, 0)", 1);
            run.still("wouldPick(1, 5, 0)", NONE).due("wouldPick(1, 200, 0)", NONE);
            run.still("wouldPick(2, 1, 0)", NONE);
        }
        Doc.promise(28, " or there is no such index.");
        refusedWith(run, "wouldPick(1, 2, #)", outside(2), NONE);
        refusedWith(run, "wouldPick(1, 4, #)", outside(4), NONE);
        Doc.promise(28, NO_POOL);
        refusedWith(run, "wouldPick(#, 1, 0)", outside(3), INDEX);
        Doc.promise(28, COUNT);
        refusedWith(run, "wouldPick(1, #, 0)", outside(1, 200), ARGUMENT);
    }

    private static void runs() {
        Doc.promise(29, "Counts the runs of a pool: maximal rows of successive blocks that are in it.");
        mapped("1101110001").still("runCount(1)", 3).still("runCount(0)", 2);
        Doc.promise(29, "Returns the number of runs.");
        mapped("0001").due("runCount(1)", 1).due("runCount(0)", 1).due("runCount(2)", 0);
        mapped("10101").due("runCount(1)", 3).due("runCount(0)", 2);
        mapped("111").due("runCount(1)", 1).due("runCount(0)", 0);
        mapped("1221").due("runCount(1)", 2).due("runCount(2)", 1);
        Doc.promise(29, NO_POOL);
        refusedWith(pools(), "runCount(#)", outside(3), INDEX);
        Doc.promise(30, "Returns the length of the longest run of a pool.");
        mapped("1101110001").still("longestRun(1)", 3).still("longestRun(0)", 3);
        Doc.promise(30, "Returns the number of blocks, 0 if the pool has none.");
        mapped("111").due("longestRun(1)", 3).still("longestRun(0)", 0).still("longestRun(2)", 0);
        mapped("0001").due("longestRun(1)", 1).due("longestRun(0)", 3);
        mapped("1011").due("longestRun(1)", 2);
        Run.of("blocks 200").due("longestRun(0)", 200).due("runCount(0)", 1);
        Doc.promise(30, NO_POOL);
        refusedWith(pools(), "longestRun(#)", outside(3), INDEX);
    }

    private static void fragmentation() {
        Doc.promise(31, "Returns how far a pool is fragmented.");
        mapped("1101110001").still("fragmentation(1)", 0.5f);
        Doc.promise(31, "Returns 1f - (float) (length of its longest run) / (float) (number of its"
                + " blocks)");
        mapped("110101010101").due("fragmentation(1)", 1f - (float) 2 / (float) 7)
                .due("fragmentation(0)", 1f - (float) 1 / (float) 5);
        mapped("1101011").due("fragmentation(1)", 1f - (float) 2 / (float) 5);
        mapped("0111").due("fragmentation(1)", 0f).due("fragmentation(0)", 0f);
        Doc.promise(31, "; 0f if it has none.");
        mapped("111").still("fragmentation(0)", 0f).still("fragmentation(2)", 0f);
        Doc.promise(31, NO_POOL);
        refusedWith(pools(), "fragmentation(#)", outside(3), INDEX);
    }

    private static void swap() {
        Doc.promise(32, "Exchanges the places of two blocks on the map: each gets the pool and the time"
                + " since of the other one.");
        Run run = pools().does("advance(4)", "transferBlock(9, 1, 0)");
        run.due("swap(0, 9)", false).due("since(0)", 4).due("since(9)", 0).map("1112200001");
        run.due("swap(0, 8)", true).due("since(0)", 0).due("since(8)", 4).map("0112200011");
        Doc.promise(32, "The balances stay, and there is no entry.");
        run.due("balance(1)", 4).due("booked(1)", 4).due("entryCount()", 3).due("mismatches()", 0);
        Doc.promise(32, "Returns whether their pools were different.");
        pools().due("swap(0, 9)", true).due("swap(9, 0)", true).due("swap(0, 2)", false)
                .due("swap(2, 3)", true).due("swap(8, 9)", false).map("1121200000");
        Doc.promise(32, "Throws `IndexOutOfBoundsException` if one of the blocks does not exist");
        refusedWith(pools(), "swap(#, 0)", outside(10), INDEX);
        refusedWith(pools(), "swap(0, #)", outside(10), INDEX);
        Doc.promise(32, "Throws `IllegalArgumentException` if both are the same");
        pools().still("swap(0, 0)", ARGUMENT).still("swap(9, 9)", ARGUMENT);
    }

    private static void bestSwap() {
        Doc.promise(33, "Finds the exchange of a block of a pool with a block of another pool after"
                + " which the longest run of the pool would be longest.");
        // The gap at 2 makes five of the two and two around it, and any other gap less.
        mapped("1101100001").due("bestSwap(1)", 9002);
        mapped("1210001").due("bestSwap(1)", 6001);
        mapped("0000100101").due("bestSwap(1)", 4008);
        // A run can be moved along by a block, but that makes it no longer.
        mapped("1011").due("bestSwap(1)", 1);
        Doc.promise(33, "Nothing changes.");
        mapped("1101100001").does("advance(3)").still("bestSwap(1)", 9002).still("bestSwap(0)", 2004);
        Doc.promise(33, "Returns 1000 * (block of the pool) + (other block)");
        mapped("0100000001").due("bestSwap(1)", 1008);
        Run.of("blocks 200;pool a 9 0").does("corrupt(198, 1)", "corrupt(0, 1)").due("bestSwap(1)", 197);
        Run.of("blocks 200;pool a 9 0").does("corrupt(199, 1)", "corrupt(0, 1)")
                .due("swap(0, 150)", true).due("bestSwap(1)", 150198);
        Doc.promise(33, NO_POOL);
        refusedWith(pools(), "bestSwap(#)", outside(3), INDEX);
    }

    private static void bestSwapOfSeveral() {
        Doc.promise(33, ", the smallest of several");
        mapped("0101").due("bestSwap(1)", 1002);
        mapped("1001101100").due("bestSwap(1)", 5);
        mapped("1000010000").due("bestSwap(1)", 4);
        mapped("0110110").due("bestSwap(1)", 1003);
        mapped("011001").due("bestSwap(1)", 5000);
        Doc.promise(33, "; NONE if the longest run would not be longer than now with any of them.");
        mapped("00111").still("bestSwap(1)", NONE);
        mapped("111").still("bestSwap(1)", NONE).still("bestSwap(0)", NONE).still("bestSwap(2)", NONE);
        mapped("0100").still("bestSwap(1)", NONE);
        Run.of("blocks 1").still("bestSwap(0)", NONE);
        Run.of("blocks 200").due("bestSwap(0)", NONE);
    }
}
