/** Promises 47 to 49: rents. */
public final class RentTest {
    public static void main(String[] args) {
        promise47Rent();
        promise48TotalRent();
        promise49RentAhead();
        Check.end("RentTest");
    }

    private static StorageLedger rented() {
        return Check.ledger("blocks 200;pool a 200 33;pool b 200 9999;grant a 7;grant b 101");
    }

    private static void promise47Rent() {
        StorageLedger x = rented();
        Check.same("at first", x.rent(1), 0f);
        x.advance(11);
        float due = 0f + 33 / 100f * (7 * 11);
        Check.same("charged", x.rent(1), due);
        x.transfer(1, 0, 4, 0);
        Check.same("a transfer charges nothing", x.rent(1), due);
        x.advance(1);
        due = due + 33 / 100f * (3 * 1);
        Check.same("charged for what is there", x.rent(1), due);
        x.corrupt(199, 1);
        x.advance(1000);
        due = due + 33 / 100f * (4 * 1000);
        Check.same("the map counts", x.rent(1), due);
        float other = 0f;
        for (int ticks : new int[] {11, 1, 1000}) {
            other = other + 9999 / 100f * (101 * ticks);
        }
        Check.same("piece by piece, in floats", x.rent(2), other);
        Check.same("free pays nothing", x.rent(0), 0f);
        x.reserve(1, 0, 1, 1);
        x.advance(1);
        Check.same("reservations do not matter", x.rent(1), due + 33 / 100f * (4 * 1));
        Check.index("pool 3", () -> x.rent(3));
        Check.index("pool -1", () -> x.rent(-1));
    }

    private static void promise48TotalRent() {
        StorageLedger x = Check.ledger(
                "blocks 200;pool a 200 9999;pool b 200 1;pool c 200 9999;grant a 90;grant b 1;grant c 91");
        Check.same("at first", x.totalRent(), 0f);
        for (int i = 0; i < 20; i++) {
            x.advance(999);
        }
        Check.same("the sum", x.totalRent(), 0f + x.rent(0) + x.rent(1) + x.rent(2) + x.rent(3));
        Check.same("it is not 0", x.totalRent() > 1000f, true);
    }

    private static void promise49RentAhead() {
        StorageLedger x = rented();
        x.advance(13);
        float ahead = x.rentAhead(1, 17);
        Check.same("ahead", ahead, x.rent(1) + 33 / 100f * (7 * 17));
        Check.same("nothing changes", x.rent(1), 0f + 33 / 100f * (7 * 13));
        Check.same("no time passes", x.now(), 13);
        Check.same("free", x.rentAhead(0, 1000), 0f);
        x.advance(17);
        Check.same("as predicted", x.rent(1), ahead);
        Check.index("pool 3", () -> x.rentAhead(3, 0));
        Check.index("pool -1", () -> x.rentAhead(-1, 1));
        Check.argument("ticks 0", () -> x.rentAhead(1, 0));
        Check.argument("ticks 1001", () -> x.rentAhead(1, 1001));
    }
}
