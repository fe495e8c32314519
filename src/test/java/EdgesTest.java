import java.io.IOException;

/**
 * The document's boundary cases, sentence by sentence. It also looks whether each sentence and each row
 * of a promise has a test, so that none is forgotten when the document grows.
 */
final class EdgesTest {
    private EdgesTest() {
    }

    public static void main(String[] args) throws IOException {
        Book.open();
        CreekEdges.tell();
        DayEdges.tell();
        ClaimEdges.tell();
        WaterEdges.tell();
        WorkEdges.tell();
        DustEdges.tell();
        StoreEdges.tell();
        BackingEdges.tell();
        SaleEdges.tell();
        RumourEdges.tell();
        PlanEdges.tell();
        RefusalEdges.tell();
        Book.close();
        Check.end();
    }
}
