import java.util.List;

/** Section 6 of the description: refusals, their order, and the constants. */
final class OrderBoundaries extends Boundaries {
    private OrderBoundaries() {
    }

    static void test() {
        refusalsChangeNothing();
        textsAreTheException();
        exceptionsInOrder();
        exceptionsBeforeErrors();
        errorsOfTransfers();
        errorsOfReversals();
        errorsOfReservations();
        snapshots();
        constants();
    }

    /** Something of everything: the map is 1112220002, two are reserved from a to b. */
    private static Run rich() {
        return pools().does("advance(2)", "checkpoint()", "reserve(1, 2, 2, 3)", "reserve(0, 1, 1, 9)",
                "release(1)", "saveSnapshot(0)", "transfer(0, 2, 1, 4)", "saveSnapshot(1)",
                "setPick(3)", "corrupt(9, 2)");
    }

    private static void refusalsChangeNothing() {
        Doc.section(6, "A method that returns an error or throws an exception changes nothing");
        Run run = rich();
        run.still("transfer(1, 0, 2, 0)", NOT_ENOUGH).still("transfer(0, 2, 1, 0)", NO_ROOM);
        run.still("transfer(3, 0, 1, 0)", INDEX).still("transfer(0, 0, 1, 0)", ARGUMENT);
        run.still("transferBlock(0, 1, 0)", WRONG_STATE).still("transferBlock(6, 2, 0)", NO_ROOM);
        run.still("transferBlock(10, 0, 0)", INDEX).still("transferBlock(0, 2, 10)", ARGUMENT);
        run.still("reverse(0)", NOT_ENOUGH).still("reverse(3)", INDEX);
        run.still("reserve(1, 0, 2, 1)", NOT_ENOUGH).still("reserve(0, 2, 1, 1)", NO_ROOM);
        run.still("reserve(0, 3, 1, 1)", INDEX).still("reserve(0, 1, 1, 0)", ARGUMENT);
        run.still("commit(1, 0)", WRONG_STATE).still("commit(0, 0)", NO_ROOM);
        run.still("commit(2, 0)", INDEX).still("commit(0, 10)", ARGUMENT);
        run.still("release(1)", WRONG_STATE).still("release(2)", INDEX);
        run.still("extend(1, 1)", WRONG_STATE).still("extend(0, 1001)", ARGUMENT);
        run.still("advance(0)", ARGUMENT).still("setPick(4)", ARGUMENT);
        run.still("swap(0, 10)", INDEX).still("swap(0, 0)", ARGUMENT);
        run.still("corrupt(0, 3)", INDEX).still("corrupt(10, 0)", INDEX);
        run.still("saveSnapshot(2)", ARGUMENT).still("restoreSnapshot(2)", ARGUMENT);
        run.still("appendByte(256)", ARGUMENT);
    }

    private static void textsAreTheException() {
        Doc.section(6, ", except that load() and batch() empty the buffer and set the result of"
                + " textError().");
        rich().refused("load()", "blocks 201", -107, 2).due("textError()", 2).due("appendByte(97)", 1);
        rich().refused("batch()", "move 1 a c 1", -109, 3).due("textError()", 3)
                .due("appendByte(97)", 1);
        rich().refused("load()", "?", -100, 1).refused("batch()", "back 9", -1000, 0)
                .due("textError()", 0).due("appendByte(97)", 1);
    }

    private static void exceptionsInOrder() {
        Doc.section(6, "If several exceptions apply, the one that is named first is thrown");
        Run run = rich();
        run.due("transfer(3, 3, 0, 10)", INDEX).due("transfer(0, -1, 201, -1)", INDEX);
        run.due("transferBlock(10, 0, 10)", INDEX).due("transferBlock(0, 3, -1)", INDEX);
        run.due("reserve(3, 3, 0, 0)", INDEX).due("reserve(0, 3, 201, 1001)", INDEX);
        run.due("commit(2, 10)", INDEX).due("commit(-1, -1)", INDEX);
        run.due("extend(2, 0)", INDEX).due("extend(-1, 1001)", INDEX);
        run.due("largestTransfer(3, 3)", INDEX).due("largestTransfer(-1, -1)", INDEX);
        run.due("wouldPick(3, 0, 0)", INDEX).due("wouldPick(-1, 201, 0)", INDEX);
        run.due("swap(10, 10)", INDEX).due("swap(-1, -1)", INDEX);
        run.due("entryValue(3, 7)", INDEX).due("entryValue(-1, -1)", INDEX);
        run.due("bookedAt(3, -1)", INDEX).due("bookedAt(-1, -1)", INDEX);
        run.due("peak(3, -1, 0)", INDEX).due("peak(-1, 2, 1)", INDEX);
        run.due("flow(3, 0, -1, 0)", INDEX).due("flow(0, 3, 2, 1)", INDEX);
        run.due("reservationValue(2, 5)", INDEX).due("reservationValue(-1, -1)", INDEX);
        run.due("whenAvailable(3, -1)", INDEX).due("whenAvailable(-1, 201)", INDEX);
        run.due("rentAhead(3, 0)", INDEX).due("rentAhead(-1, 1001)", INDEX);
        run.due("auditOf(0, 1, 3)", INDEX).due("auditOf(-1, 0, -1)", INDEX);
        run.due("auditOf(1, 0, 3)", INDEX);
    }

    private static void exceptionsBeforeErrors() {
        Doc.section(6, "; exceptions come before errors");
        Run run = rich();
        run.due("transfer(1, 0, 2, 10)", ARGUMENT).due("transfer(0, 2, 1, -1)", ARGUMENT);
        run.due("transferBlock(0, 1, 10)", ARGUMENT).due("transferBlock(6, 2, -1)", ARGUMENT);
        run.due("reserve(1, 0, 2, 1001)", ARGUMENT).due("reserve(0, 2, 1, 0)", ARGUMENT);
        run.due("commit(1, 10)", ARGUMENT).due("commit(0, -1)", ARGUMENT);
        run.due("extend(1, 0)", ARGUMENT).due("extend(1, 1001)", ARGUMENT);
        Run full = journal(300);
        full.due("transfer(0, 1, 0, 0)", ARGUMENT).due("transfer(2, 0, 1, 0)", INDEX);
        full.due("transferBlock(0, 1, 10)", ARGUMENT).due("transferBlock(4, 1, 0)", INDEX);
        full.due("reverse(300)", INDEX).due("reverse(-1)", INDEX);
        Run held = Run.of("blocks 4;pool a4 1").times(60, "reserve(0, 1, 1, 1)", "advance(1)");
        held.due("reserve(0, 1, 1, 0)", ARGUMENT).due("reserve(0, 2, 1, 1)", INDEX);
    }

    private static void errorsOfTransfers() {
        Doc.section(6, ", and errors are returned in the order in which they are named.");
        // transfer: FULL, NOT_ENOUGH, NO_ROOM; the room of a is 0 in the second ledger.
        journal(300).due("transfer(1, 0, 1, 0)", FULL).due("transfer(0, 1, 5, 0)", FULL);
        Run tight = Run.of("blocks 9;pool a 4 0;pool b 9 0;grant a 4");
        tight.due("transfer(0, 1, 6, 0)", NOT_ENOUGH).due("transfer(0, 1, 5, 0)", NO_ROOM);
        // transferBlock: FULL, WRONG_STATE, NOT_ENOUGH, NO_ROOM.
        journal(300).due("transferBlock(0, 0, 0)", FULL);
        tight.due("transferBlock(0, 1, 0)", WRONG_STATE);
        tight.does("reserve(1, 2, 4, 9)").due("transferBlock(0, 1, 0)", WRONG_STATE);
        tight.due("transferBlock(0, 0, 0)", NOT_ENOUGH).due("transferBlock(8, 1, 0)", NO_ROOM);
        tight.does("reserve(0, 2, 5, 9)").due("transferBlock(8, 1, 0)", NOT_ENOUGH);
    }

    private static void errorsOfReversals() {
        // reverse: FULL, WRONG_STATE, MOVED, NOT_ENOUGH, NO_ROOM.
        Run full = journal(298).does("transfer(0, 1, 1, 0)", "reverse(298)");
        full.due("reverse(298)", FULL).due("reverse(299)", FULL).due("reverse(296)", FULL);
        Run run = Run.of("blocks 9;pool a 4 0;pool b 9 0;grant a 3").does("transfer(1, 2, 2, 1)",
                "reverse(1)");
        run.due("reverse(1)", WRONG_STATE).does("transfer(1, 2, 2, 1)").due("reverse(2)", WRONG_STATE);
        // Entry 3 is to be reversed: now b lacks a block, then blocks, and then a lacks room.
        run.does("corrupt(0, 0)", "reserve(2, 0, 1, 9)", "reserve(0, 1, 3, 9)");
        run.due("reverse(3)", MOVED).does("corrupt(0, 2)").due("reverse(3)", NOT_ENOUGH);
        run.does("release(0)").due("reverse(3)", NO_ROOM).does("release(1)").due("reverse(3)", 4);
    }

    private static void errorsOfReservations() {
        // reserve: FULL, NOT_ENOUGH, NO_ROOM.
        Run held = Run.of("blocks 4;pool a4 1").times(60, "reserve(0, 1, 1, 1)", "advance(1)");
        held.due("reserve(0, 1, 5, 1)", FULL);
        Run tight = Run.of("blocks 9;pool a 4 0;grant a 4");
        tight.due("reserve(0, 1, 6, 1)", NOT_ENOUGH).due("reserve(0, 1, 5, 1)", NO_ROOM);
        // commit: WRONG_STATE, FULL, NOT_ENOUGH, NO_ROOM.
        Run full = journal(300).does("reserve(0, 1, 1, 9)", "reserve(0, 1, 1, 9)", "release(1)");
        full.due("commit(1, 0)", WRONG_STATE).does("corrupt(0, 1)", "corrupt(1, 1)", "corrupt(2, 1)",
                "corrupt(3, 1)").due("commit(0, 0)", FULL);
        Run both = Run.of("blocks 9;pool a 4 0;pool b 2 0;grant a 2").does("reserve(1, 2, 2, 9)",
                "corrupt(8, 2)", "corrupt(0, 0)");
        both.due("commit(0, 0)", NOT_ENOUGH).does("corrupt(0, 1)").due("commit(0, 0)", NO_ROOM);
    }

    private static void snapshots() {
        Doc.section(6, "A snapshot contains the ledger with its description");
        Run run = rich();
        run.does("saveSnapshot(0)").loads("blocks 3;pool c 1 1", 2).does("advance(9)");
        run.does("restoreSnapshot(0)").sameAs(rich().does("saveSnapshot(0)"));
        Doc.section(6, ", but not the input buffer.");
        pools().typed("a").does("saveSnapshot(0)").due("poolNamed()", 1).does("restoreSnapshot(0)")
                .due("poolNamed()", NONE);
        pools().does("saveSnapshot(0)").typed("a").does("restoreSnapshot(0)").due("poolNamed()", 1);
    }

    private static void constants() {
        List<Integer> due = List.of(-1, -2, -3, -4, -5, -6);
        List<Integer> got = List.of(StorageLedger.NONE, StorageLedger.FULL, StorageLedger.NOT_ENOUGH,
                StorageLedger.NO_ROOM, StorageLedger.WRONG_STATE, StorageLedger.MOVED);
        List<String> sentences = List.of("`NONE = -1`: There is no such thing.",
                "`FULL = -2`: A limit would be exceeded.",
                "`NOT_ENOUGH = -3`: Fewer blocks are available.",
                "`NO_ROOM = -4`: The pool has not so much room.",
                "`WRONG_STATE = -5`: It is not in the state that is needed.",
                "`MOVED = -6`: A block has gone elsewhere.");
        for (int i = 0; i < due.size(); i++) {
            Doc.section(6, sentences.get(i));
            Check.same(Doc.now(), got.get(i), due.get(i));
        }
    }
}
