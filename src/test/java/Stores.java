/** Stores that several tests start from. */
final class Stores {
    private Stores() {
    }

    /** So many results that use nothing, and blobs of 10 bytes of project 0, at clock 0. */
    static SweepRows with(int results, int blobs) {
        SweepRows x = new SweepRows(1000);
        for (int i = 0; i < results; i++) {
            x.result();
        }
        for (int i = 0; i < blobs; i++) {
            x.blob(10, 0);
        }
        return x;
    }
}
