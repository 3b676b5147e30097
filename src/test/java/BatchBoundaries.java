/** Section 5 of the description, and promise 19: batches. */
final class BatchBoundaries extends Boundaries {
    private static final String POOLS = "blocks 10;pool a 8 100;pool b 5 0;grant a 5";

    private BatchBoundaries() {
    }

    static void test() {
        listOfCommands();
        moveAndHold();
        waitAndBack();
        countAndReason();
        ticksAndEntry();
        names();
        order();
        commandsThatFail();
        backThatFails();
        fullRows();
        batch();
        answers();
    }

    /** A text that cannot be read as a batch. */
    private static void bad(String text, int position, int error) {
        Run.of(POOLS).refused("batch()", text, -100 - position, error);
    }

    /** A batch whose command of this index cannot be carried out. */
    private static void fails(Run run, String text, int command) {
        run.refused("batch()", text, -1000 - command, 0);
    }

    private static void alike(String text, String... calls) {
        Run.of(POOLS).batches(text, calls.length).sameAs(Run.of(POOLS).does(calls));
    }

    private static void listOfCommands() {
        Doc.section(5, "A batch is a list of one or more commands, separated by semicolons, with the"
                + " tokens and errors of section 1:");
        bad("", 0, 1);
        bad("  ", 2, 1);
        Run.of(POOLS).batches("wait 1", 1).batches(" wait  1 ; wait 2 ", 2).due("now()", 4);
        bad("wait 1;", 7, 1);
        bad(";wait 1", 0, 1);
        bad("wait 1;;wait 1", 7, 1);
        bad("wait 1 wait 1", 7, 1);
        bad("waits 1", 0, 1);
        bad("Wait 1", 0, 1);
        bad("wait 1?", 6, 1);
        bad("wait 1\n", 6, 1);
        bad("wait 1;pick lowest", 7, 1);
        bad("wait 1;pool c 1 1", 7, 1);
        bad("wait 1;grant a 1", 7, 1);
        bad("blocks 4", 0, 1);
        Run.of(POOLS).batches("move1a b0;wait1;back1", 3);
        bad("move1ab0", 5, 3);
        bad("wait1 0", 6, 1);
    }

    private static void moveAndHold() {
        Doc.section(5, "move COUNT NAME NAME REASON - as transfer(from, to, count, reason)");
        alike("move 2 a b 7", "transfer(1, 2, 2, 7)");
        alike("move 3 free a 0", "transfer(0, 1, 3, 0)");
        bad("move", 4, 1);
        bad("move a", 5, 1);
        bad("move 1", 6, 1);
        bad("move 1 1", 7, 1);
        bad("move 1 a", 8, 1);
        bad("move 1 a 1", 9, 1);
        bad("move 1 a b", 10, 1);
        bad("move 1 a b c", 11, 1);
        bad("move 1 a b 1 1", 13, 1);
        Doc.section(5, "hold COUNT NAME NAME TICKS - as reserve(from, to, count, ticks)");
        alike("hold 2 a b 7", "reserve(1, 2, 2, 7)");
        alike("hold 3 free a 1000", "reserve(0, 1, 3, 1000)");
        bad("hold", 4, 1);
        bad("hold a", 5, 1);
        bad("hold 1", 6, 1);
        bad("hold 1 a", 8, 1);
        bad("hold 1 a b", 10, 1);
        bad("hold 1 a b;", 10, 1);
        bad("hold 1 a b 1 1", 13, 1);
    }

    private static void waitAndBack() {
        Doc.section(5, "wait TICKS - as advance(ticks)");
        alike("wait 3", "advance(3)");
        alike("hold 1 a b 3;wait 3", "reserve(1, 2, 1, 3)", "advance(3)");
        bad("wait", 4, 1);
        bad("wait a", 5, 1);
        bad("wait 1 a", 7, 1);
        Doc.section(5, "back ENTRY - as reverse(entry).");
        alike("back 0", "reverse(0)");
        alike("move 2 a b 4;wait 1;back 1", "transfer(1, 2, 2, 4)", "advance(1)", "reverse(1)");
        bad("back", 4, 1);
        bad("back a", 5, 1);
        bad("back -1", 5, 1);
        bad("back 0 0", 7, 1);
    }

    private static void countAndReason() {
        Doc.section(5, "COUNT is 1 to 200");
        Run all = Run.of("blocks 200;pool a 200 0");
        all.batches("move 1 free a 0;back 0;move 200 free a 0", 3).due("balance(1)", 200);
        all.batches("hold 200 a free 1", 1).due("available(1)", 0);
        bad("move 0 a b 1", 5, 2);
        bad("move 201 a b 1", 5, 2);
        bad("hold 0 a b 1", 5, 2);
        bad("hold 201 a b 1", 5, 2);
        // The number is out of its range before the name is wrong.
        bad("move 0 x b 1", 5, 2);
        Doc.section(5, "REASON 0 to 9");
        Run.of(POOLS).batches("move 1 a b 0;move 1 a b 9", 2).due("entryValue(1, 3)", 0)
                .due("entryValue(2, 3)", 9);
        bad("move 1 a b 10", 11, 2);
        bad("move 1 a b 4294967296", 11, 2);
    }

    private static void ticksAndEntry() {
        Doc.section(5, "TICKS 1 to 1000");
        Run.of(POOLS).batches("wait 1;wait 1000", 2).due("now()", 1001);
        Run.of(POOLS).batches("hold 1 a b 1;hold 1 a b 1000", 2).due("reservationValue(0, 3)", 1)
                .due("reservationValue(1, 3)", 1000);
        bad("wait 0", 5, 2);
        bad("wait 1001", 5, 2);
        bad("hold 1 a b 0", 11, 2);
        bad("hold 1 a b 1001", 11, 2);
        Doc.section(5, "ENTRY 0 to 299");
        Run.of(POOLS).batches("back 0", 1);
        fails(Run.of(POOLS), "back 299", 0);
        bad("back 300", 5, 2);
        bad("back 4294967296", 5, 2);
        journal(299).batches("back 298", 1).due("entryValue(298, 6)", 299);
    }

    private static void names() {
        Doc.section(5, "; the two names must be different (otherwise error 3 at the second one).");
        bad("move 1 a a 1", 9, 3);
        bad("move 1 free   free 1", 14, 3);
        bad("hold 1 b b", 9, 3);
        bad("move 1 c c 1", 7, 3);
        bad("move 1 a c 1", 9, 3);
        bad("move 1 abcdefg a 1", 7, 3);
        bad("wait 1;hold 1 a abcdefg 1", 16, 3);
    }

    private static void order() {
        Doc.section(5, "The whole text is read first");
        bad("back 200;wait 0", 14, 2);
        bad("move 200 a b 0;wait 5;", 22, 1);
        bad("move 1 a b 0;wait 5;move 1 a x 0", 29, 3);
        Doc.section(5, "; then the commands are carried out in order.");
        Run.of(POOLS).batches("wait 3;move 1 a b 1;wait 2;move 1 a b 2", 4)
                .entry(1, "1 2 1 1 3 0 -1").entry(2, "1 2 1 2 5 0 -1");
        Run.of(POOLS).batches("move 5 a b 1;move 5 b a 2", 2);
        fails(Run.of(POOLS), "move 5 b a 2;move 5 a b 1", 0);
    }

    private static void commandsThatFail() {
        Doc.section(5, "A command cannot be carried out if its method would return an error");
        Run.of(POOLS).batches("move 5 a b 1", 1);
        fails(Run.of(POOLS), "move 6 a b 1", 0);
        Run.of(POOLS).batches("move 3 free a 1", 1);
        fails(Run.of(POOLS), "move 4 free a 1", 0);
        Run.of(POOLS).batches("hold 5 a b 1", 1);
        fails(Run.of(POOLS), "hold 6 a b 1", 0);
        Run.of(POOLS).batches("hold 3 free a 1", 1);
        fails(Run.of(POOLS), "hold 4 free a 1", 0);
        // What is held is not there for the commands behind it, until it expires.
        fails(Run.of(POOLS), "hold 3 a b 2;wait 1;move 3 a b 0", 2);
        Run.of(POOLS).batches("hold 3 a b 2;wait 2;move 3 a b 0", 3);
    }

    private static void backThatFails() {
        fails(Run.of(POOLS), "back 0;back 0", 1);
        fails(Run.of(POOLS), "back 0;back 1", 1);
        fails(Run.of(POOLS), "move 1 a free 1;back 0", 1);
        fails(Run.of(POOLS).does("reserve(1, 2, 1, 9)"), "back 0", 0);
        // Free loses its room to a reservation whose blocks have come by an error of the map.
        fails(Run.of(POOLS).does("transfer(0, 2, 2, 0)", "reserve(2, 0, 2, 9)", "corrupt(5, 0)",
                "corrupt(6, 0)"), "back 0", 0);
        Doc.section(5, " or throw an exception.");
        fails(Run.of(POOLS), "back 1", 0);
        fails(Run.of(POOLS), "wait 1;back 1", 1);
        Run.of(POOLS).batches("move 1 a b 1;back 1", 2);
        fails(Run.fresh(), "back 0", 0);
        // Nor is there an entry where an earlier ledger had one.
        Run again = Run.fresh();
        for (int round = 0; round < 2; round++) {
            again.typed("blocks 9;pool a9 0;grant a2;grant a1").does("load()");
        }
        again.typed("blocks 9;pool a9 0;grant a3").does("load()");
        fails(again, "back 1", 0);
    }

    private static void fullRows() {
        Doc.section(5, "A command cannot be carried out if its method would return an error");
        journal(299).batches("move 1 a free 0", 1);
        fails(journal(299), "move 1 a free 0;move 1 free a 0", 1);
        fails(journal(300), "move 1 free a 0", 0);
        fails(journal(300), "wait 1;back 298", 1);
        Run held = Run.of("blocks 4;pool a4 1").times(59, "reserve(0, 1, 1, 1)", "advance(1)");
        fails(held, "hold 1 free a 1;hold 1 free a 1", 1);
        held.batches("hold 1 free a 1", 1);
        fails(held, "hold 1 free a 1", 0);
    }

    private static void batch() {
        Doc.promise(19, "Reads the input buffer as a batch (section 5) and carries it out, all or"
                + " nothing.");
        alike("move 1 a b 1;wait 5;hold 1 a b 5", "transfer(1, 2, 1, 1)", "advance(5)",
                "reserve(1, 2, 1, 5)");
        fails(Run.of(POOLS).does("reserve(1, 2, 1, 3)", "checkpoint()", "saveSnapshot(0)"),
                "move 1 a b 1;wait 5;hold 1 a b 5;back 0", 3);
        Doc.promise(19, "The buffer is emptied in every case.");
        Run.of(POOLS).batches("wait 1", 1).due("appendByte(97)", 1);
        Run.of(POOLS).refused("batch()", "wait 0", -105, 2).due("appendByte(97)", 1);
        Run.of(POOLS).refused("batch()", "back 9", -1000, 0).due("appendByte(97)", 1);
    }

    private static void answers() {
        String most = "wait1;".repeat(82);
        Doc.promise(19, "Returns the number of commands");
        Run.fresh().batches("wait1", 1).due("now()", 1);
        Run.fresh().batches(most + "wait1   ", 83).due("now()", 83);
        Doc.promise(19, "; -100 minus the position of the error if the text has one");
        bad("?", 0, 1);
        bad(" ?", 1, 1);
        Run.fresh().refused("batch()", most + "wait1  ?", -599, 1);
        Run.fresh().refused("batch()", most + "wait1  ;", -600, 1);
        Run.fresh().refused("batch()", most + "wait0   ", -100 - 496, 2);
        Doc.promise(19, "; -1000 minus the index of the first command that cannot be carried out");
        fails(Run.fresh(), "back0", 0);
        fails(Run.fresh(), "wait1;back0;back0", 1);
        fails(Run.fresh(), most + "back0", 82);
        Doc.promise(19, "; in both cases nothing else changes.");
        Run rich = Run.of(POOLS).does("advance(2)", "reserve(1, 2, 1, 3)", "checkpoint()",
                "saveSnapshot(0)", "transfer(1, 0, 1, 5)", "setPick(2)");
        rich.refused("batch()", "move 1 a b 1;wait 0", -118, 2);
        fails(rich, "move 1 a b 1;wait 9;back 1;hold 9 a b 1", 3);
    }
}
