/** Promises 20 to 23 and 25 to 33: balances, the map, runs and exchanges. */
public final class MapTest {
    private static final int NONE = StorageLedger.NONE;

    public static void main(String[] args) {
        promises20To23Balances();
        promises25And26Blocks();
        promise27BlockAt();
        promise28WouldPick();
        promise28WouldPickByEachWay();
        promises29To31Runs();
        promise32Swap();
        promise33BestSwap();
        promise33BestSwapAgainstTrying();
        Check.end("MapTest");
    }

    /** A ledger with three pools whose blocks lie as the text says, a digit a block. */
    private static StorageLedger mapped(String map) {
        StorageLedger x = Check.ledger("blocks " + map.length() + ";pool a 200 0;pool b 200 0");
        for (int block = 0; block < map.length(); block++) {
            if (map.charAt(block) != '0') {
                x.corrupt(block, map.charAt(block) - '0');
            }
        }
        return x;
    }

    private static void promises20To23Balances() {
        StorageLedger x = Check.ledger("blocks 10;pool a 3 0;pool b 9 0;grant a 3");
        Check.same("balance", x.balance(1), 3);
        Check.same("booked", x.booked(1), 3);
        Check.same("available", x.available(1), 3);
        Check.same("room", x.room(1), 0);
        Check.same("balance of free", x.balance(0), 7);
        Check.same("booked of free", x.booked(0), 7);
        Check.same("room of free", x.room(0), 3);
        x.corrupt(9, 1);
        Check.same("balance of the map", x.balance(1), 4);
        Check.same("booked stays", x.booked(1), 3);
        Check.same("room below 0", x.room(1), -1);
        x.corrupt(0, 2);
        x.transfer(2, 0, 1, 1);
        Check.same("booked below 0", x.booked(2), -1);
        x.reserve(1, 2, 3, 4);
        x.reserve(0, 2, 5, 4);
        Check.same("available less pending", x.available(1), 0);
        Check.same("room less pending", x.room(2), 1);
        Check.same("room of free is not lessened by what leaves", x.room(0), 3);
        x.corrupt(1, 0);
        Check.same("available below 0", x.available(1), -1);
        for (int pool : new int[] {-1, 3, Integer.MAX_VALUE, Integer.MIN_VALUE}) {
            Check.index("balance", () -> x.balance(pool));
            Check.index("booked", () -> x.booked(pool));
            Check.index("available", () -> x.available(pool));
            Check.index("room", () -> x.room(pool));
        }
        StorageLedger y = Check.ledger("blocks 5;pool a 5 0;grant a 4");
        y.reserve(1, 0, 3, 9);
        Check.same("room of free less what comes", y.room(0), 1);
    }

    private static void promises25And26Blocks() {
        StorageLedger x = Check.ledger("blocks 5;pool a 5 0;grant a 2");
        x.advance(6);
        x.transfer(0, 1, 1, 0);
        Check.same("poolOf", x.poolOf(2), 1);
        Check.same("poolOf the last", x.poolOf(4), 0);
        Check.same("since", x.since(2), 6);
        Check.same("since of the old", x.since(1), 0);
        for (int block : new int[] {-1, 5, 199, Integer.MAX_VALUE, Integer.MIN_VALUE}) {
            Check.index("poolOf", () -> x.poolOf(block));
            Check.index("since", () -> x.since(block));
        }
    }

    private static void promise27BlockAt() {
        StorageLedger x = mapped("0120110");
        Check.same("first", x.blockAt(1, 0), 1);
        Check.same("second", x.blockAt(1, 1), 4);
        Check.same("last", x.blockAt(1, 2), 5);
        Check.same("behind", x.blockAt(1, 3), NONE);
        Check.same("before", x.blockAt(1, -1), NONE);
        Check.same("of free", x.blockAt(0, 2), 6);
        Check.same("behind free", x.blockAt(0, 3), NONE);
        Check.index("pool 3", () -> x.blockAt(3, 0));
        Check.index("pool -1", () -> x.blockAt(-1, 0));
    }

    private static void promise28WouldPick() {
        StorageLedger x = mapped("0110110");
        x.reserve(1, 2, 4, 9);
        Check.same("reservations do not matter", x.wouldPick(1, 4, 3), 5);
        Check.same("first", x.wouldPick(1, 2, 0), 1);
        Check.same("second", x.wouldPick(1, 2, 1), 2);
        Check.same("behind", x.wouldPick(1, 2, 2), NONE);
        Check.same("before", x.wouldPick(1, 2, -1), NONE);
        Check.same("more than there are", x.wouldPick(1, 5, 0), NONE);
        Check.same("an empty pool", x.wouldPick(2, 1, 0), NONE);
        Check.index("pool 3", () -> x.wouldPick(3, 0, 0));
        Check.index("pool -1", () -> x.wouldPick(-1, 1, 0));
        Check.argument("count 0", () -> x.wouldPick(1, 0, 0));
        Check.argument("count 201", () -> x.wouldPick(1, 201, 0));
        Check.same("200 is in range", x.wouldPick(1, 200, 0), NONE);
        Check.same("nothing changes", Check.map(x), "0110110");
    }

    private static void promise28WouldPickByEachWay() {
        StorageLedger x = mapped("0111101101");
        x.advance(1);
        x.corrupt(1, 1);
        x.corrupt(6, 1);
        x.advance(1);
        x.corrupt(2, 1);
        // Since 0: 3, 4, 7, 9; since 1: 1, 6; since 2: 2.
        picks(x, 0, 3, "1 2 3");
        picks(x, 1, 3, "6 7 9");
        picks(x, 2, 3, "3 4 7");
        picks(x, 2, 5, "1 3 4 7 9");
        picks(x, 2, 7, "1 2 3 4 6 7 9");
        picks(x, 3, 1, "9");
        picks(x, 3, 2, "6 7");
        picks(x, 3, 3, "1 2 3");
        picks(x, 3, 5, "1 2 3 4 6");
        StorageLedger first = mapped("1010");
        picks(first, 3, 2, "0 2");
        first.advance(1);
        first.corrupt(2, 1);
        picks(first, 2, 1, "0");
        first.corrupt(0, 1);
        first.corrupt(1, 1);
        first.advance(1);
        first.corrupt(1, 1);
        first.corrupt(2, 1);
        picks(first, 2, 2, "0 1");
        StorageLedger whole = Check.ledger("blocks 200");
        whole.setPick(3);
        Check.same("a run of all blocks", whole.wouldPick(0, 200, 199), 199);
        whole.setPick(2);
        Check.same("all blocks by age", whole.wouldPick(0, 200, 199), 199);
    }

    private static void picks(StorageLedger x, int way, int count, String due) {
        x.setPick(way);
        StringBuilder got = new StringBuilder();
        for (int index = 0; index < count; index++) {
            got.append(index == 0 ? "" : " ").append(x.wouldPick(1, count, index));
        }
        Check.same("way " + way + ", count " + count, got.toString(), due);
    }

    private static void promises29To31Runs() {
        StorageLedger x = mapped("1101110001");
        Check.same("runs", x.runCount(1), 3);
        Check.same("longest", x.longestRun(1), 3);
        Check.same("fragmentation", x.fragmentation(1), 1f - 3f / 6f);
        Check.same("runs of free", x.runCount(0), 2);
        Check.same("longest of free", x.longestRun(0), 3);
        Check.same("fragmentation of free", x.fragmentation(0), 1f - 3f / 4f);
        Check.same("no runs", x.runCount(2), 0);
        Check.same("longest of none", x.longestRun(2), 0);
        Check.same("fragmentation of none", x.fragmentation(2), 0f);
        StorageLedger y = mapped("110101010101");
        Check.same("fragmentation is a float", y.fragmentation(1), 1f - 2f / 7f);
        Check.same("one run", mapped("111").fragmentation(1), 0f);
        Check.same("one block at the end", mapped("0001").runCount(1), 1);
        Check.same("two blocks at the end", mapped("0011").runCount(1), 1);
        Check.same("one block at the start", mapped("1001").runCount(1), 2);
        for (int pool : new int[] {-1, 3}) {
            Check.index("runCount", () -> x.runCount(pool));
            Check.index("longestRun", () -> x.longestRun(pool));
            Check.index("fragmentation", () -> x.fragmentation(pool));
        }
    }

    private static void promise32Swap() {
        StorageLedger x = Check.ledger("blocks 5;pool a 5 0;grant a 2");
        x.advance(4);
        x.transfer(0, 1, 1, 0);
        Check.same("different pools", x.swap(2, 4), true);
        Check.same("map", Check.map(x), "11001");
        Check.same("since goes along", x.since(4), 4);
        Check.same("since of the other", x.since(2), 0);
        Check.same("same pool", x.swap(0, 4), false);
        Check.same("map stays", Check.map(x), "11001");
        Check.same("since is exchanged even so", x.since(0), 4);
        Check.same("of the other too", x.since(4), 0);
        Check.same("no entry", x.entryCount(), 2);
        Check.same("balances stay", x.mismatches(), 0);
        Check.index("block -1", () -> x.swap(-1, 0));
        Check.index("block 5", () -> x.swap(5, 5));
        Check.index("other -1", () -> x.swap(0, -1));
        Check.index("other 5", () -> x.swap(0, 5));
        Check.argument("both the same", () -> x.swap(3, 3));
    }

    private static void promise33BestSwap() {
        Check.same("closes a gap", mapped("1101100001").bestSwap(1), 9002);
        Check.same("the smallest block of the pool", mapped("1001101100").bestSwap(1), 5);
        Check.same("takes from a run's own end", mapped("1011").bestSwap(1), 1);
        Check.same("one run", mapped("00111").bestSwap(1), NONE);
        Check.same("an empty pool", mapped("00111").bestSwap(2), NONE);
        Check.same("a pool of all blocks", mapped("111").bestSwap(1), NONE);
        Check.same("one block", mapped("0100").bestSwap(1), NONE);
        Check.same("two blocks", mapped("0101").bestSwap(1), 1002);
        Check.same("the other may be of any pool", mapped("1210001").bestSwap(1), 6001);
        StorageLedger x = mapped("1101100001");
        x.bestSwap(1);
        Check.same("nothing changes", Check.map(x), "1101100001");
        Check.index("pool 3", () -> x.bestSwap(3));
        Check.index("pool -1", () -> x.bestSwap(-1));
    }

    private static void promise33BestSwapAgainstTrying() {
        java.util.Random random = new java.util.Random(33);
        for (int run = 0; run < 300; run++) {
            int blocks = 1 + random.nextInt(14);
            StringBuilder map = new StringBuilder();
            for (int block = 0; block < blocks; block++) {
                map.append((char) ('0' + random.nextInt(3)));
            }
            Check.same("bestSwap of " + map, mapped(map.toString()).bestSwap(1), tried(map));
        }
    }

    private static int tried(StringBuilder map) {
        int best = NONE;
        int longest = longest(map);
        for (int own = 0; own < map.length(); own++) {
            for (int other = 0; other < map.length(); other++) {
                if (map.charAt(own) == '1' && map.charAt(other) != '1') {
                    StringBuilder changed = new StringBuilder(map);
                    changed.setCharAt(own, map.charAt(other));
                    changed.setCharAt(other, '1');
                    if (longest(changed) > longest) {
                        longest = longest(changed);
                        best = 1000 * own + other;
                    }
                }
            }
        }
        return best;
    }

    private static int longest(StringBuilder map) {
        int longest = 0;
        for (String run : map.toString().split("[^1]+")) {
            longest = Math.max(longest, run.length());
        }
        return longest;
    }
}
