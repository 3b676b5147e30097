/** Section 4 of the description, and promises 15 to 18 and 42 to 49: reservations and rents. */
final class ReservationBoundaries extends Boundaries {
    private ReservationBoundaries() {
    }

    static void test() {
        pending();
        charged();
        reserve();
        reserveErrors();
        commit();
        commitErrors();
        release();
        extend();
        reservationCount();
        reservationValue();
        reservedFrom();
        nextExpiry();
        whenAvailable();
        rent();
        totalRent();
        rentAhead();
    }

    /** One that is committed, one that is released, one that is expired, and one that is pending. */
    private static Run ofEachState() {
        return pools().does("reserve(1, 2, 1, 9)", "reserve(0, 1, 1, 9)", "reserve(0, 2, 1, 3)",
                "commit(0, 5)", "release(1)", "reserve(0, 1, 1, 9)", "advance(3)");
    }

    /** As many reservations as there can be, all of them pending. */
    private static Run allPending() {
        return Run.of("blocks 60;pool a 60 0").times(60, "reserve(0, 1, 1, 9)");
    }

    /** A ledger with so many reservations, none of which is pending. */
    private static Run reservations(int count) {
        return Run.of("blocks 4;pool a4 1").times(count, "reserve(0, 1, 1, 1)", "advance(1)");
    }

    // ---- section 4 ----

    private static void pending() {
        Doc.section(4, "A reservation for a transfer is pending until it is committed, released or"
                + " expires.");
        pools().does("reserve(1, 2, 1, 9)").due("reservationValue(0, 4)", 0).does("advance(8)")
                .due("reservationValue(0, 4)", 0).does("commit(0, 0)").due("reservationValue(0, 4)", 1)
                .does("advance(9)").due("reservationValue(0, 4)", 1);
        pools().does("reserve(1, 2, 1, 9)", "release(0)").due("reservationValue(0, 4)", 2)
                .due("advance(9)", 0).due("reservationValue(0, 4)", 2);
        pools().does("reserve(1, 2, 1, 9)", "advance(9)").due("reservationValue(0, 4)", 3);
        Doc.section(4, "It expires when the time is at least its expiry.");
        Run run = pools().does("reserve(0, 1, 1, 5)", "reserve(0, 2, 1, 7)");
        run.due("advance(4)", 0).due("reservationValue(0, 4)", 0);
        run.due("advance(1)", 1).due("reservationValue(0, 4)", 3).due("reservationValue(1, 4)", 0);
        run.due("advance(1000)", 1).due("reservationValue(1, 4)", 3);
        pools().does("advance(3)", "reserve(0, 1, 1, 1)").due("advance(1)", 1);
    }

    private static void charged() {
        Doc.section(4, "When ticks pass, each pool is first charged: its rent, a float that is 0f at"
                + " first, becomes rent + RATE / 100f * (balance on the map * ticks), computed with"
                + " floats (the product in parentheses is an int)");
        Run run = Run.of("blocks 200;pool a 200 33;pool b 200 9999;grant a 7;grant b 101");
        run.due("rent(1)", 0f).due("rent(2)", 0f);
        float a = 0f;
        float b = 0f;
        for (int ticks : new int[] {1, 11, 1000, 3, 999}) {
            a = a + 33 / 100f * (7 * ticks);
            b = b + 9999 / 100f * (101 * ticks);
            run.does("advance(" + ticks + ")").due("rent(1)", a).due("rent(2)", b);
        }
        // The map counts, not the journal.
        run.does("corrupt(0, 2)", "advance(7)").due("rent(1)", a + 33 / 100f * (6 * 7))
                .due("rent(2)", b + 9999 / 100f * (102 * 7));
        Run.of("blocks 200;pool a 200 9999;grant a 200").does("advance(1000)")
                .due("rent(1)", 0f + 9999 / 100f * (200 * 1000));
        Doc.section(4, "; free has the RATE 0.");
        Run.of("blocks 200").does("advance(1000)").due("rent(0)", 0f);
        Doc.section(4, "Then the time increases, and reservations expire.");
        pools().does("reserve(1, 2, 3, 2)").due("advance(2)", 1).due("now()", 2)
                .due("rent(1)", 0f + 100 / 100f * (3 * 2)).due("rent(2)", 0f + 50 / 100f * (2 * 2));
    }

    // ---- promises 15 to 18 ----

    private static void reserve() {
        Doc.promise(15, "Reserves blocks for a transfer (section 4).");
        pools().due("reserve(1, 2, 2, 5)", 0).due("available(1)", 1).due("room(2)", 1)
                .map("1112200000").due("entryCount()", 2);
        Doc.promise(15, "`count`: 1 to 200");
        Run all = Run.of("blocks 200;pool a 200 0").due("reserve(0, 1, 1, 5)", 0).does("release(0)");
        all.due("reserve(0, 1, 200, 5)", 1).due("available(0)", 0).due("reserve(0, 1, 1, 5)", NOT_ENOUGH);
        Doc.promise(15, "`ticks`: 1 to 1000, after how many ticks it expires");
        pools().does("advance(4)").due("reserve(0, 1, 1, 1)", 0).due("reserve(0, 2, 1, 1000)", 1)
                .reservation(0, "0 1 1 5 0").reservation(1, "0 2 1 1004 0").due("advance(1)", 1)
                .due("advance(998)", 0).due("advance(1)", 1);
        Doc.promise(15, "Returns the number of the new reservation");
        pools().due("reserve(0, 1, 1, 1)", 0).does("release(0)").due("reserve(0, 1, 1, 1)", 1);
        Doc.promise(15, ONE_POOL_MISSING);
        refusedWith(pools(), "reserve(#, 0, 1, 1)", outside(3), INDEX);
        refusedWith(pools(), "reserve(0, #, 1, 1)", outside(3), INDEX);
        Doc.promise(15, "Throws `IllegalArgumentException` if both pools are the same, or count or ticks"
                + " is out of range");
        pools().still("reserve(0, 0, 1, 1)", ARGUMENT).still("reserve(2, 2, 1, 1)", ARGUMENT);
        refusedWith(pools(), "reserve(0, 1, #, 1)", outside(1, 200), ARGUMENT);
        refusedWith(pools(), "reserve(0, 1, 1, #)", outside(1, 1000), ARGUMENT);
    }

    private static void reserveErrors() {
        Doc.promise(15, "; FULL if there are 60 reservations");
        reservations(59).due("reserve(0, 1, 1, 1)", 59).still("reserve(0, 1, 1, 1)", FULL);
        reservations(60).still("reserve(0, 1, 1, 1)", FULL).still("reserve(1, 0, 1, 1)", FULL);
        Doc.promise(15, "; NOT_ENOUGH if fewer blocks are available");
        pools().still("reserve(1, 0, 4, 1)", NOT_ENOUGH).due("reserve(1, 0, 3, 1)", 0)
                .still("reserve(1, 0, 1, 1)", NOT_ENOUGH).does("advance(1)").due("reserve(1, 0, 1, 1)", 1);
        pools().does("reserve(1, 2, 2, 5)", "corrupt(0, 0)", "corrupt(1, 0)")
                .still("reserve(1, 0, 1, 1)", NOT_ENOUGH);
        Doc.promise(15, "; NO_ROOM if the other pool has not so much room.");
        pools().still("reserve(0, 1, 2, 1)", NO_ROOM).due("reserve(0, 1, 1, 1)", 0)
                .still("reserve(2, 1, 1, 1)", NO_ROOM).does("advance(1)").due("reserve(2, 1, 1, 1)", 1);
        pools().does("corrupt(9, 1)", "corrupt(8, 1)").still("reserve(0, 1, 1, 1)", NO_ROOM);
    }

    private static void commit() {
        Doc.promise(16, "Turns a reservation into a transfer.");
        pools().does("reserve(1, 2, 2, 9)", "advance(3)", "setPick(1)").due("commit(0, 6)", 2)
                .map("1222200000").entry(2, "1 2 2 6 3 0 -1").blocks(2, "1 2").due("since(1)", 3)
                .reservation(0, "1 2 2 9 1").due("available(1)", 1).due("room(2)", 1).due("reverse(2)", 3);
        Doc.promise(16, "`reason`: 0 to 9");
        pools().does("reserve(0, 1, 1, 9)", "reserve(0, 2, 1, 9)").due("commit(0, 0)", 2)
                .due("commit(1, 9)", 3).due("entryValue(2, 3)", 0).due("entryValue(3, 3)", 9);
        Doc.promise(16, "Returns the number of the new entry");
        Run.of("blocks 4;pool a 4 0").does("reserve(0, 1, 1, 9)").due("commit(0, 0)", 0);
        Doc.promise(16, NO_RESERVATION);
        refusedWith(ofEachState(), "commit(#, 0)", outside(4), INDEX);
        Run.fresh().still("commit(0, 0)", INDEX);
        reservations(60).still("commit(60, 0)", INDEX).due("commit(59, 0)", WRONG_STATE);
        Doc.promise(16, REASON);
        refusedWith(ofEachState(), "commit(3, #)", outside(0, 9), ARGUMENT);
    }

    private static void commitErrors() {
        Doc.promise(16, "; WRONG_STATE if it is not pending");
        ofEachState().still("commit(0, 0)", WRONG_STATE).still("commit(1, 0)", WRONG_STATE)
                .still("commit(2, 0)", WRONG_STATE).due("commit(3, 0)", 3).still("commit(3, 0)", WRONG_STATE);
        // The last tick before the expiry, and the expiry.
        pools().does("reserve(0, 1, 1, 9)", "advance(8)").due("commit(0, 0)", 2);
        pools().does("reserve(0, 1, 1, 9)", "advance(9)").still("commit(0, 0)", WRONG_STATE);
        Doc.promise(16, "; FULL if there are 300 entries");
        journal(299).does("reserve(0, 1, 1, 9)").due("commit(0, 0)", 299);
        journal(300).does("reserve(0, 1, 1, 9)").still("commit(0, 0)", FULL).due("release(0)", 0);
        Doc.promise(16, "; NOT_ENOUGH or NO_ROOM if the transfer is not possible without this"
                + " reservation");
        // Just possible: all blocks of a, and all the room of b, are reserved by it alone.
        pools().does("reserve(1, 2, 3, 9)").due("available(1)", 0).due("room(2)", 0).due("commit(0, 0)", 2);
        pools().does("reserve(1, 2, 3, 9)", "corrupt(0, 0)").still("commit(0, 0)", NOT_ENOUGH);
        pools().does("reserve(1, 2, 3, 9)", "corrupt(9, 2)").still("commit(0, 0)", NO_ROOM);
        // What other reservations hold is not there for it.
        pools().does("reserve(1, 2, 2, 9)", "reserve(1, 0, 1, 9)", "corrupt(0, 0)")
                .still("commit(0, 0)", NOT_ENOUGH).does("release(1)").due("commit(0, 0)", 2);
        pools().does("reserve(1, 2, 2, 9)", "reserve(0, 2, 1, 9)", "corrupt(9, 2)")
                .still("commit(0, 0)", NO_ROOM).does("release(1)").due("commit(0, 0)", 2);
        Doc.promise(16, "; then it stays pending.");
        pools().does("reserve(1, 2, 3, 9)", "corrupt(0, 0)").due("commit(0, 0)", NOT_ENOUGH)
                .due("reservationValue(0, 4)", 0).does("corrupt(0, 1)").due("commit(0, 0)", 2);
        pools().does("reserve(1, 2, 3, 9)", "corrupt(9, 2)").due("commit(0, 0)", NO_ROOM)
                .due("reservationValue(0, 4)", 0).does("corrupt(9, 0)").due("commit(0, 0)", 2);
    }

    private static void release() {
        Doc.promise(17, "Releases a reservation.");
        pools().does("reserve(1, 2, 3, 9)").due("available(1)", 0).does("release(0)").due("available(1)", 3)
                .due("room(2)", 3).reservation(0, "1 2 3 9 2");
        Doc.promise(17, "Returns the number of reservations that are pending then");
        pools().does("reserve(1, 2, 1, 9)", "reserve(1, 2, 1, 9)", "reserve(0, 2, 1, 9)")
                .due("release(1)", 2).due("release(2)", 1).due("release(0)", 0);
        ofEachState().due("release(3)", 0);
        allPending().due("release(59)", 59).due("release(0)", 58);
        Doc.promise(17, "; WRONG_STATE if it is not pending.");
        ofEachState().still("release(0)", WRONG_STATE).still("release(1)", WRONG_STATE)
                .still("release(2)", WRONG_STATE).does("release(3)").still("release(3)", WRONG_STATE);
        Doc.promise(17, NO_RESERVATION);
        refusedWith(ofEachState(), "release(#)", outside(4), INDEX);
        Run.fresh().still("release(0)", INDEX);
    }

    private static void extend() {
        Doc.promise(18, "Lets a reservation expire later.");
        pools().does("reserve(0, 1, 1, 5)", "advance(4)", "extend(0, 2)").due("advance(1)", 0)
                .due("advance(1)", 0).due("advance(1)", 1);
        Doc.promise(18, "`ticks`: 1 to 1000");
        pools().does("reserve(0, 1, 1, 5)").due("extend(0, 1)", 6).due("extend(0, 1000)", 1006);
        Doc.promise(18, "Returns the time at which it expires then");
        pools().does("advance(7)", "reserve(0, 1, 1, 5)", "advance(2)").due("extend(0, 3)", 15)
                .due("reservationValue(0, 3)", 15).due("extend(0, 1)", 16).reservation(0, "0 1 1 16 0");
        Doc.promise(18, "; WRONG_STATE if it is not pending.");
        ofEachState().still("extend(0, 1)", WRONG_STATE).still("extend(1, 1)", WRONG_STATE)
                .still("extend(2, 1)", WRONG_STATE).due("extend(3, 1)", 10);
        Doc.promise(18, NO_RESERVATION);
        refusedWith(ofEachState(), "extend(#, 1)", outside(4), INDEX);
        Run.fresh().still("extend(0, 1)", INDEX);
        Doc.promise(18, TICKS);
        refusedWith(ofEachState(), "extend(3, #)", outside(1, 1000), ARGUMENT);
    }

    // ---- promises 42 to 46 ----

    private static void reservationCount() {
        Doc.promise(42, "Returns the number of reservations, whatever their states.");
        ofEachState().still("reservationCount()", 4).does("release(3)").still("reservationCount()", 4);
        Doc.promise(42, "Returns 0 to 60.");
        Run.fresh().still("reservationCount()", 0);
        reservations(59).due("reservationCount()", 59).does("reserve(0, 1, 1, 1)")
                .due("reservationCount()", 60).due("reserve(0, 1, 1, 1)", FULL).due("reservationCount()", 60);
    }

    private static void reservationValue() {
        Doc.promise(43, "Returns a property of a reservation.");
        ofEachState().still("reservationValue(0, 2)", 1).still("reservationValue(2, 3)", 3);
        Doc.promise(43, "`what`: 0 the pool from which, 1 the pool to which it is; 2 the number of"
                + " blocks; 3 the time at which it expires; 4 its state (0 pending, 1 committed, 2"
                + " released, 3 expired)");
        ofEachState().reservation(0, "1 2 1 9 1").reservation(1, "0 1 1 9 2").reservation(2, "0 2 1 3 3")
                .reservation(3, "0 1 1 9 0");
        Doc.promise(43, "Returns the property.");
        reservations(60).reservation(0, "0 1 1 1 3").reservation(59, "0 1 1 60 3");
        Doc.promise(43, NO_RESERVATION);
        refusedWith(ofEachState(), "reservationValue(#, 0)", outside(4), INDEX);
        refusedWith(Run.fresh(), "reservationValue(#, 0)", outside(0), INDEX);
        refusedWith(reservations(60), "reservationValue(#, 0)", outside(60), INDEX);
        Doc.promise(43, WHAT);
        refusedWith(ofEachState(), "reservationValue(0, #)", outside(5), ARGUMENT);
    }

    private static void reservedFrom() {
        Doc.promise(44, "Returns how many blocks are reserved from a pool by pending reservations.");
        pools().does("reserve(1, 2, 2, 9)", "reserve(0, 1, 1, 9)").still("reservedFrom(1)", 2)
                .still("reservedFrom(0)", 1).still("reservedFrom(2)", 0);
        ofEachState().due("reservedFrom(0)", 1).due("reservedFrom(1)", 0);
        Doc.promise(44, "Returns the sum.");
        pools().due("reservedFrom(1)", 0).does("reserve(1, 2, 1, 5)", "reserve(1, 0, 2, 6)")
                .due("reservedFrom(1)", 3).does("advance(5)").due("reservedFrom(1)", 2).does("advance(1)")
                .due("reservedFrom(1)", 0);
        Run.of("blocks 200;pool a 200 0").does("reserve(0, 1, 200, 9)").due("reservedFrom(0)", 200);
        allPending().due("reservedFrom(0)", 60).due("available(0)", 0).due("room(1)", 0);
        Doc.promise(44, NO_POOL);
        refusedWith(pools(), "reservedFrom(#)", outside(3), INDEX);
    }

    private static void nextExpiry() {
        Doc.promise(45, "Finds the pending reservation that expires first");
        pools().does("reserve(0, 1, 1, 9)", "reserve(0, 2, 1, 7)", "reserve(0, 2, 1, 8)")
                .still("nextExpiry()", 1).does("release(1)").due("nextExpiry()", 2).does("extend(2, 2)")
                .due("nextExpiry()", 0).does("advance(9)").due("nextExpiry()", 2);
        Doc.promise(45, ", of several the one with the smallest number.");
        pools().does("reserve(0, 1, 1, 9)", "reserve(0, 2, 1, 7)", "reserve(0, 2, 1, 7)")
                .still("nextExpiry()", 1).does("extend(1, 2)", "extend(2, 2)").due("nextExpiry()", 0);
        Doc.promise(45, "Returns the reservation");
        pools().does("reserve(0, 1, 1, 9)").due("nextExpiry()", 0);
        ofEachState().due("nextExpiry()", 3);
        allPending().due("nextExpiry()", 0).due("advance(8)", 0).due("advance(1)", 60);
        Doc.promise(45, "; NONE if none is pending.");
        Run.fresh().still("nextExpiry()", NONE);
        ofEachState().does("release(3)").still("nextExpiry()", NONE);
        reservations(60).due("nextExpiry()", NONE);
    }

    private static void whenAvailable() {
        Doc.promise(46, "Predicts when so many blocks of a pool are available, if only time passes.");
        Run run = pools().does("advance(3)", "reserve(1, 2, 1, 20)", "reserve(1, 0, 1, 10)",
                "reserve(0, 2, 1, 2)", "reserve(0, 2, 1, 2)");
        run.still("whenAvailable(1, 2)", 13).still("whenAvailable(1, 3)", 23);
        run.does("advance(9)").due("available(1)", 1).does("advance(1)").due("available(1)", 2);
        run.does("advance(9)").due("available(1)", 2).does("advance(1)").due("available(1)", 3);
        Doc.promise(46, "`count`: 0 to 200");
        Run.of("blocks 200;pool a 200 0").does("reserve(0, 1, 200, 7)").due("whenAvailable(0, 200)", 7)
                .due("whenAvailable(0, 1)", 7).due("whenAvailable(0, 0)", 0);
        allPending().does("extend(59, 5)").due("whenAvailable(0, 59)", 9).due("whenAvailable(0, 60)", 14);
        Doc.promise(46, "Returns the first time, the present one or later");
        Run one = pools().does("advance(3)", "reserve(1, 2, 1, 9)");
        one.due("whenAvailable(1, 0)", 3).due("whenAvailable(1, 2)", 3).due("whenAvailable(1, 3)", 12);
        one.does("extend(0, 5)").due("whenAvailable(1, 3)", 17).does("release(0)");
        one.due("whenAvailable(1, 3)", 3);
        // Below 0 not even none is available, until enough has expired.
        pools().does("reserve(1, 2, 1, 5)", "reserve(1, 2, 2, 9)", "corrupt(0, 0)", "corrupt(1, 0)")
                .due("available(1)", -2).due("whenAvailable(1, 0)", 9).due("whenAvailable(1, 1)", 9);
        Doc.promise(46, "; NONE if it is never.");
        pools().still("whenAvailable(1, 4)", NONE).still("whenAvailable(1, 200)", NONE)
                .does("reserve(1, 2, 3, 9)").still("whenAvailable(1, 4)", NONE).due("whenAvailable(1, 3)", 9);
        Run.of("blocks 4;pool a 4 0").still("whenAvailable(1, 1)", NONE).still("whenAvailable(1, 0)", 0);
        Doc.promise(46, NO_POOL);
        refusedWith(pools(), "whenAvailable(#, 1)", outside(3), INDEX);
        Doc.promise(46, COUNT);
        refusedWith(pools(), "whenAvailable(1, #)", outside(0, 200), ARGUMENT);
    }

    // ---- promises 47 to 49 ----

    private static void rent() {
        Doc.promise(47, "Returns the rent that a pool was charged (section 4).");
        pools().does("advance(3)").still("rent(1)", 9f).still("rent(2)", 3f).does("transfer(1, 0, 3, 0)",
                "advance(5)").due("rent(1)", 9f);
        Doc.promise(47, "Returns the rent.");
        pools().due("rent(1)", 0f).due("rent(0)", 0f).does("advance(1000)").due("rent(1)", 3000f)
                .due("rent(0)", 0f);
        Run.of("blocks 5;pool a 5 0;grant a 5").does("advance(1000)").due("rent(1)", 0f);
        Doc.promise(47, NO_POOL);
        refusedWith(pools(), "rent(#)", outside(3), INDEX);
    }

    private static void totalRent() {
        Doc.promise(48, "Returns the sum of the rents of all pools.");
        Run.fresh().still("totalRent()", 0f).does("advance(9)").due("totalRent()", 0f);
        pools().does("advance(3)").still("totalRent()", 12f);
        Run.of(manyPools(7).replace("g 1 0", "g 1 100")).does("transfer(0, 7, 1, 0)", "advance(3)")
                .due("rent(7)", 3f).due("totalRent()", 3f);
        Doc.promise(48, "Returns the sum, to 0f one after the other in the order of the pools.");
        // So chosen that another order of the same rents has another sum.
        Run run = Run.of("blocks 200;pool a 200 9999;pool b 9 100;pool c 9 100;grant a 200");
        run.times(9, "advance(1000)").does("transfer(1, 2, 1, 0)", "transfer(1, 3, 1, 0)", "advance(5)");
        float a = 0f;
        for (int i = 0; i < 9; i++) {
            a = a + 9999 / 100f * (200 * 1000);
        }
        a = a + 9999 / 100f * (198 * 5);
        Check.same("another order has the same sum", a + 5f + 5f == 5f + 5f + a, false);
        run.due("rent(1)", a).due("rent(2)", 5f).due("rent(3)", 5f).due("totalRent()", 0f + 0f + a + 5f + 5f);
    }

    private static void rentAhead() {
        Doc.promise(49, "Predicts the rent of a pool if only time passes: ticks in one piece.");
        Run run = Run.of("blocks 9;pool a 9 33;grant a 7").does("advance(13)");
        float rent = 0f + 33 / 100f * (7 * 13);
        run.still("rentAhead(1, 17)", rent + 33 / 100f * (7 * 17)).due("rent(1)", rent);
        run.does("advance(17)").due("rent(1)", rent + 33 / 100f * (7 * 17));
        Doc.promise(49, "`ticks`: 1 to 1000");
        pools().due("rentAhead(1, 1)", 3f).due("rentAhead(1, 1000)", 3000f).due("rentAhead(2, 1)", 1f);
        Doc.promise(49, "Returns the rent then.");
        pools().due("rentAhead(0, 1000)", 0f).does("corrupt(0, 0)").due("rentAhead(1, 10)", 20f)
                .does("advance(10)").due("rentAhead(1, 10)", 40f);
        Doc.promise(49, NO_POOL);
        refusedWith(pools(), "rentAhead(#, 1)", outside(3), INDEX);
        Doc.promise(49, TICKS);
        refusedWith(pools(), "rentAhead(1, #)", outside(1, 1000), ARGUMENT);
    }
}
