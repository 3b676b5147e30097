/** Each sentence of the document by itself: its boundaries, on both sides, and its refusals. */
public final class BoundaryTest {
    public static void main(String[] args) {
        TextBoundaries.test();
        BatchBoundaries.test();
        OrderBoundaries.test();
        TransferBoundaries.test();
        MapBoundaries.test();
        JournalBoundaries.test();
        ReservationBoundaries.test();
        AuditBoundaries.test();
        Doc.everySentenceIsQuoted();
        Check.end("BoundaryTest");
    }
}
