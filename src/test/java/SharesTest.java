/** Promises 11, 12 and 21: weight, fair, share. */
public final class SharesTest {
    private static final int MIN = Integer.MIN_VALUE;
    private static final int MAX = Integer.MAX_VALUE;

    public static void main(String[] args) {
        promise11Weight();
        promise11OthersKeepTheirs();
        promise12Fair();
        promise12OverMeansMoreThanTheShare();
        promise12AsItIsWhenTheOrderIsMade();
        promise21GreatestRemainders();
        promise21EqualRemainders();
        promise21GreatRoom();
        promise21SharesSumToTheRoom();
        promise21NoWeights();
        promise21BlobsChangeNoShare();
        promise21WrongInputs();
        Due.end();
    }

    private static void weights(SweepRows x, int... w) {
        for (int project = 0; project < w.length; project++) {
            Due.yes("11 weight " + w[project], x.weight(project, w[project]));
        }
    }

    private static void promise11Weight() {
        SweepRows x = new SweepRows(100);
        weights(x, 1, 0, 0, 0, 0, 100);
        Due.shares("11", x, 1, 0, 0, 0, 0, 99);
        for (int project : new int[] {-1, 6, MIN, MAX}) {
            Due.no("11 project " + project, x.weight(project, 1));
        }
        for (int w : new int[] {-1, 101, MIN, MAX}) {
            Due.no("11 weight " + w, x.weight(0, w));
        }
        Due.shares("11 nothing changed", x, 1, 0, 0, 0, 0, 99);
    }

    private static void promise11OthersKeepTheirs() {
        SweepRows x = new SweepRows(100);
        x.weight(2, 5);
        Due.shares("11 the others have 1 each", x, 10, 10, 50, 10, 10, 10);
    }

    private static void promise12Fair() {
        SweepRows x = new SweepRows(60);
        x.blob(9, 0);
        x.blob(6, 1);
        x.blob(5, 1);
        x.tick(10);
        x.begin(0);
        Due.order("12 off", x, 0, 1, 2);
        x.fair(true);
        Due.order("12 the order stays till begin", x, 0, 1, 2);
        x.begin(0);
        Due.order("12 on", x, 1, 2, 0);
        Due.is("12 dry is fair", 2, x.dry(11));
        x.fair(true);
        x.begin(0);
        Due.order("12 on again", x, 1, 2, 0);
        x.fair(false);
        Due.is("12 dry isn't fair", 1, x.dry(11));
        x.begin(0);
        Due.order("12 off again", x, 0, 1, 2);
    }

    private static void promise12OverMeansMoreThanTheShare() {
        SweepRows x = new SweepRows(60);
        x.fair(true);
        x.blob(20, 0);
        x.blob(10, 1);
        x.blob(2, 2);
        x.pin(0, false, 0);
        x.tick(1);
        x.begin(0);
        Due.order("12 just the share isn't over", x, 1, 2);
        x.blob(9, 2);
        x.begin(0);
        Due.order("12 one byte more is", x, 2, 3, 1);
        x.blob(1, 0);
        x.begin(0);
        Due.order("12 pinned blobs count for over", x, 2, 3, 4, 1);
    }

    private static void promise12AsItIsWhenTheOrderIsMade() {
        SweepRows x = new SweepRows(60);
        x.fair(true);
        x.blob(6, 0);
        x.blob(6, 0);
        x.blob(9, 1);
        x.tick(1);
        Due.is("12 dry keeps to the order made", 2, x.dry(9));
        x.begin(9);
        x.weight(0, 100);
        Due.is("12 step keeps to the order made", 2, x.step(9));
        Due.is("12 that of 1 stays", 9, x.used(1));
    }

    private static void promise21GreatestRemainders() {
        SweepRows x = new SweepRows(10);
        weights(x, 1, 2, 3, 0, 0, 1);
        // 10/7, 20/7, 30/7, 0, 0, 10/7: floors 1 2 4 1, remainders 3 6 2 3, two bytes left.
        Due.shares("21", x, 2, 3, 4, 0, 0, 1);
        SweepRows y = new SweepRows(1);
        weights(y, 1, 0, 0, 5, 0, 0);
        Due.shares("21 one byte", y, 0, 0, 0, 1, 0, 0);
    }

    private static void promise21EqualRemainders() {
        SweepRows x = new SweepRows(3);
        Due.shares("21 the lesser projects", x, 1, 1, 1, 0, 0, 0);
        weights(x, 0, 2, 0, 2, 2, 2);
        Due.shares("21 none for the weight 0", x, 0, 1, 0, 1, 1, 0);
        SweepRows y = new SweepRows(65);
        Due.shares("21 five bytes left", y, 11, 11, 11, 11, 11, 10);
    }

    private static void promise21GreatRoom() {
        SweepRows x = new SweepRows(1000000000);
        weights(x, 100, 100, 100, 100, 100, 99);
        Due.shares("21 great", x, 166944909, 166944908, 166944908, 166944908, 166944908, 165275459);
        weights(x, 100, 0, 0, 0, 0, 0);
        Due.shares("21 all for one", x, 1000000000, 0, 0, 0, 0, 0);
    }

    private static void promise21SharesSumToTheRoom() {
        for (int room = 0; room < 200; room++) {
            SweepRows x = new SweepRows(room);
            weights(x, room % 7, room % 11, room % 13, 1, room % 101, 100 - room % 97);
            int sum = 0;
            for (int project = 0; project < 6; project++) {
                sum += x.share(project);
            }
            Due.is("21 sum", room, sum);
        }
    }

    private static void promise21NoWeights() {
        SweepRows x = new SweepRows(7);
        weights(x, 0, 0, 0, 0, 0, 0);
        Due.shares("21 no weights", x, 0, 0, 0, 0, 0, 0);
        x.fair(true);
        x.blob(1, 3);
        Due.is("21 a sweep without weights", 1, x.begin(0));
        x.weight(4, 1);
        Due.shares("21 weights again", x, 0, 0, 0, 0, 7, 0);
    }

    private static void promise21BlobsChangeNoShare() {
        SweepRows x = new SweepRows(60);
        x.blob(7, 0);
        x.blob(20, 1);
        x.pin(0, false, 1);
        Due.shares("21 by room and weights alone", x, 10, 10, 10, 10, 10, 10);
        x.begin(0);
        x.step(9);
        Due.shares("21 also after a drop", x, 10, 10, 10, 10, 10, 10);
    }

    private static void promise21WrongInputs() {
        SweepRows x = new SweepRows(60);
        for (int project : new int[] {-1, 6, MIN, MAX}) {
            Due.is("21 project " + project, 0, x.share(project));
        }
    }
}
