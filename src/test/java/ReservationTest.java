/** Promises 15 to 18 and 42 to 46: reservations. */
public final class ReservationTest {
    private static final int NONE = StorageLedger.NONE;
    private static final int FULL = StorageLedger.FULL;
    private static final int NOT_ENOUGH = StorageLedger.NOT_ENOUGH;
    private static final int NO_ROOM = StorageLedger.NO_ROOM;
    private static final int WRONG_STATE = StorageLedger.WRONG_STATE;

    public static void main(String[] args) {
        promise15Reserve();
        promise15Limit();
        promise16Commit();
        promise16Impossible();
        promise17Release();
        promise18Extend();
        promise42ReservationCount();
        promise43ReservationValue();
        promise44ReservedFrom();
        promise45NextExpiry();
        promise46WhenAvailable();
        Check.end("ReservationTest");
    }

    private static StorageLedger pools() {
        return Check.ledger("blocks 12;pool a 6 0;pool b 8 0;grant a 5");
    }

    private static void promise15Reserve() {
        StorageLedger x = pools();
        x.advance(4);
        Check.same("reserve", x.reserve(1, 2, 3, 10), 0);
        Check.same("its properties", Check.reservation(x, 0), "1 2 3 14 0");
        Check.same("no block moves", Check.map(x), "111110000000");
        Check.same("no entry", x.entryCount(), 1);
        Check.same("available", x.available(1), 2);
        Check.same("room", x.room(2), 5);
        Check.same("the other sides stay", x.room(1) * 100 + x.available(2), 100);
        Check.same("not enough", x.reserve(1, 2, 3, 10), NOT_ENOUGH);
        Check.same("no room", x.reserve(0, 2, 6, 10), NO_ROOM);
        Check.same("not enough before no room", x.reserve(1, 2, 6, 10), NOT_ENOUGH);
        Check.same("what is left", x.reserve(0, 2, 5, 1000), 1);
        Check.same("its expiry", x.reservationValue(1, 3), 1004);
        Check.index("from -1", () -> x.reserve(-1, 0, 1, 1));
        Check.index("to 3", () -> x.reserve(0, 3, 1, 1));
        Check.index("the pools first", () -> x.reserve(3, 3, 0, 0));
        Check.argument("same pools", () -> x.reserve(1, 1, 1, 1));
        Check.argument("count 0", () -> x.reserve(0, 1, 0, 1));
        Check.argument("count 201", () -> x.reserve(0, 1, 201, 1));
        Check.argument("ticks 0", () -> x.reserve(0, 1, 1, 0));
        Check.argument("ticks 1001", () -> x.reserve(0, 1, 1, 1001));
        Check.same("nothing was added", x.reservationCount(), 2);
    }

    private static void promise15Limit() {
        StorageLedger x = pools();
        for (int reservation = 0; reservation < 60; reservation++) {
            Check.same("reserve", x.reserve(0, 1, 1, 1), reservation);
            x.release(reservation);
        }
        Check.same("the 61st", x.reserve(0, 1, 1, 1), FULL);
        Check.same("full before not enough", x.reserve(0, 1, 200, 1), FULL);
        Check.same("hold when full", Check.batch(x, "hold 1 free a 1"), -1000);
        Check.same("count", x.reservationCount(), 60);
    }

    private static void promise16Commit() {
        StorageLedger x = pools();
        x.reserve(1, 2, 5, 10);
        x.reserve(0, 1, 1, 10);
        x.setPick(1);
        x.advance(9);
        Check.same("commit", x.commit(0, 6), 1);
        Check.same("map", Check.map(x), "222220000000");
        Check.same("entry", Check.entry(x, 1), "1 2 5 6 9 0 -1");
        Check.same("since", x.since(0), 9);
        Check.same("state", x.reservationValue(0, 4), 1);
        Check.same("again", x.commit(0, 6), WRONG_STATE);
        Check.same("commit picks as set", x.commit(1, 0), 2);
        Check.same("map then", Check.map(x), "222220000001");
        x.reserve(0, 1, 1, 1);
        x.advance(1);
        Check.same("expired", x.commit(2, 0), WRONG_STATE);
        x.reserve(0, 1, 1, 1);
        x.release(3);
        Check.same("released", x.commit(3, 0), WRONG_STATE);
        Check.index("reservation -1", () -> x.commit(-1, 0));
        Check.index("reservation 4", () -> x.commit(4, 10));
        Check.argument("reason -1", () -> x.commit(0, -1));
        Check.argument("reason 10", () -> x.commit(0, 10));
        Check.same("reversible", x.reverse(1), 3);
    }

    private static void promise16Impossible() {
        StorageLedger x = pools();
        x.reserve(1, 2, 3, 10);
        x.reserve(1, 2, 2, 10);
        x.corrupt(0, 0);
        Check.same("a block is gone", x.commit(0, 0), NOT_ENOUGH);
        Check.same("it stays pending", x.reservationValue(0, 4), 0);
        x.release(1);
        Check.same("without the other one", x.commit(0, 0), 1);
        StorageLedger y = Check.ledger("blocks 12;pool a 6 0;pool b 3 0;grant a 5");
        y.reserve(1, 2, 3, 10);
        y.corrupt(11, 2);
        Check.same("the room is gone", y.commit(0, 0), NO_ROOM);
        Check.same("that stays pending", y.reservationValue(0, 4), 0);
        Check.same("no entry", y.entryCount(), 1);
        y.corrupt(0, 0);
        y.corrupt(1, 0);
        y.corrupt(2, 0);
        Check.same("not enough before no room", y.commit(0, 0), NOT_ENOUGH);
        y.corrupt(0, 1);
        y.corrupt(11, 0);
        Check.same("just enough", y.commit(0, 0), 1);
        Check.same("map", Check.map(y), "200220000000");
    }

    private static void promise17Release() {
        StorageLedger x = pools();
        x.reserve(1, 2, 3, 10);
        x.reserve(1, 2, 1, 10);
        x.reserve(0, 2, 1, 10);
        Check.same("release", x.release(1), 2);
        Check.same("state", x.reservationValue(1, 4), 2);
        Check.same("available", x.available(1), 2);
        Check.same("again", x.release(1), WRONG_STATE);
        x.commit(0, 1);
        Check.same("committed", x.release(0), WRONG_STATE);
        Check.same("the last one", x.release(2), 0);
        x.reserve(0, 2, 1, 1);
        x.advance(1);
        Check.same("expired", x.release(3), WRONG_STATE);
        Check.index("reservation 4", () -> x.release(4));
        Check.index("reservation -1", () -> x.release(-1));
    }

    private static void promise18Extend() {
        StorageLedger x = pools();
        x.reserve(1, 2, 3, 10);
        x.advance(4);
        Check.same("extend", x.extend(0, 5), 15);
        Check.same("expiry", x.reservationValue(0, 3), 15);
        Check.same("extend far", x.extend(0, 1000), 1015);
        Check.argument("ticks 0", () -> x.extend(0, 0));
        Check.argument("ticks 1001", () -> x.extend(0, 1001));
        Check.index("reservation 1", () -> x.extend(1, 0));
        Check.index("reservation -1", () -> x.extend(-1, 1));
        Check.same("still pending", x.advance(1000), 0);
        Check.same("expires", x.advance(11), 1);
        Check.same("extend an expired one", x.extend(0, 1), WRONG_STATE);
        Check.argument("exceptions before errors", () -> x.extend(0, 0));
        x.reserve(1, 2, 1, 1);
        x.release(1);
        Check.same("extend a released one", x.extend(1, 1), WRONG_STATE);
        x.reserve(1, 2, 1, 1);
        x.commit(2, 0);
        Check.same("extend a committed one", x.extend(2, 1), WRONG_STATE);
        Check.same("its expiry stays", x.reservationValue(2, 3), 1016);
    }

    private static void promise42ReservationCount() {
        StorageLedger x = pools();
        Check.same("none", x.reservationCount(), 0);
        x.reserve(0, 1, 1, 1);
        x.reserve(0, 2, 1, 1);
        x.reserve(0, 2, 1, 1);
        x.release(0);
        x.commit(1, 0);
        x.advance(1);
        Check.same("all states count", x.reservationCount(), 3);
    }

    private static void promise43ReservationValue() {
        StorageLedger x = pools();
        x.reserve(1, 2, 3, 10);
        x.reserve(0, 1, 1, 20);
        Check.same("the first", Check.reservation(x, 0), "1 2 3 10 0");
        Check.same("the second", Check.reservation(x, 1), "0 1 1 20 0");
        x.advance(10);
        Check.same("the first expired", Check.reservation(x, 0), "1 2 3 10 3");
        x.commit(1, 0);
        Check.same("the second committed", Check.reservation(x, 1), "0 1 1 20 1");
        Check.index("reservation 2", () -> x.reservationValue(2, 0));
        Check.index("reservation -1", () -> x.reservationValue(-1, 9));
        Check.argument("what 5", () -> x.reservationValue(0, 5));
        Check.argument("what -1", () -> x.reservationValue(0, -1));
    }

    private static void promise44ReservedFrom() {
        StorageLedger x = pools();
        x.reserve(1, 2, 3, 10);
        x.reserve(1, 0, 1, 5);
        x.reserve(0, 1, 1, 5);
        Check.same("from a", x.reservedFrom(1), 4);
        Check.same("from free", x.reservedFrom(0), 1);
        Check.same("to does not count", x.reservedFrom(2), 0);
        x.advance(5);
        Check.same("pending alone count", x.reservedFrom(1), 3);
        x.commit(0, 0);
        Check.same("none then", x.reservedFrom(1), 0);
        Check.index("pool 3", () -> x.reservedFrom(3));
        Check.index("pool -1", () -> x.reservedFrom(-1));
    }

    private static void promise45NextExpiry() {
        StorageLedger x = pools();
        Check.same("none", x.nextExpiry(), NONE);
        x.reserve(0, 1, 1, 9);
        x.reserve(0, 2, 1, 7);
        x.reserve(0, 2, 1, 7);
        Check.same("the first of two", x.nextExpiry(), 1);
        x.release(1);
        Check.same("the other one", x.nextExpiry(), 2);
        x.extend(2, 3);
        Check.same("extended", x.nextExpiry(), 0);
        x.advance(9);
        Check.same("after an expiry", x.nextExpiry(), 2);
        x.commit(2, 0);
        Check.same("none is pending", x.nextExpiry(), NONE);
    }

    private static void promise46WhenAvailable() {
        StorageLedger x = pools();
        x.advance(3);
        x.reserve(1, 2, 1, 20);
        x.reserve(1, 2, 2, 10);
        x.reserve(0, 2, 1, 2);
        x.reserve(1, 0, 1, 10);
        Check.same("now", x.whenAvailable(1, 1), 3);
        Check.same("none is always available", x.whenAvailable(1, 0), 3);
        Check.same("after one expiry", x.whenAvailable(1, 2), 13);
        Check.same("after two at once", x.whenAvailable(1, 4), 13);
        Check.same("after all", x.whenAvailable(1, 5), 23);
        Check.same("never", x.whenAvailable(1, 6), NONE);
        Check.same("200 is in range", x.whenAvailable(1, 200), NONE);
        Check.same("free", x.whenAvailable(0, 7), 5);
        Check.same("nothing in b", x.whenAvailable(2, 1), NONE);
        x.corrupt(0, 0);
        x.corrupt(1, 0);
        x.corrupt(2, 0);
        Check.same("negative: even none is not available", x.available(1), -2);
        Check.same("until it is", x.whenAvailable(1, 0), 13);
        x.release(1);
        x.release(3);
        Check.same("available after releases", x.whenAvailable(1, 1), 3);
        Check.same("the released do not count", x.whenAvailable(1, 2), 23);
        Check.index("pool 3", () -> x.whenAvailable(3, 1));
        Check.index("pool -1", () -> x.whenAvailable(-1, -1));
        Check.argument("count -1", () -> x.whenAvailable(1, -1));
        Check.argument("count 201", () -> x.whenAvailable(1, 201));
        Check.same("nothing changes", x.now(), 3);
    }
}
