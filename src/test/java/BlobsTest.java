/** Promises 1, 2, 5, 10, 19 and 20: a new object, blob, read, tick, about, used. */
public final class BlobsTest {
    private static final int MIN = Integer.MIN_VALUE;
    private static final int MAX = Integer.MAX_VALUE;

    public static void main(String[] args) {
        promise1NewObject();
        promise1RoomIsKeptInRange();
        promise2Numbers();
        promise2WrongInputs();
        promise2Room();
        promise2DroppedBlobsCountAmongForty();
        promise5Read();
        promise10Tick();
        promise10ClockHasAnEnd();
        promise19About();
        promise20Used();
        Due.end();
    }

    private static void promise1NewObject() {
        SweepRows x = new SweepRows(60);
        Due.is("1 used", 0, x.used(SweepRows.NONE));
        Due.is("1 about", -1, x.about(0, 0));
        Due.no("1 whole", x.whole(0));
        Due.is("1 sweep", -1, x.sweep(0));
        Due.is("1 order", -1, x.order(0));
        Due.is("1 dry", 0, x.dry(0));
        Due.is("1 clock", 0, x.tick(0));
        for (int project = 0; project < 6; project++) {
            Due.is("1 share of equal weights", 10, x.share(project));
        }
        for (int holder = 0; holder < 8; holder++) {
            Due.is("1 free", 0, x.free(holder));
        }
        x.blob(1, 0);
        x.blob(20, 1);
        x.tick(100);
        x.read(1);
        x.begin(0);
        Due.order("1 fair is off", x, 0, 1);
        Due.is("NONE", -1, SweepRows.NONE);
    }

    private static void promise1RoomIsKeptInRange() {
        Due.is("1 room below", -2, new SweepRows(-1).blob(1, 0));
        Due.is("1 room far below", -2, new SweepRows(MIN).blob(1, 0));
        Due.is("1 room 0", -2, new SweepRows(0).blob(1, 0));
        Due.is("1 room 1", 0, new SweepRows(1).blob(1, 0));
        Due.is("1 most room", 1000000000, wholeRoom(1000000000));
        Due.is("1 room above", 1000000000, wholeRoom(1000000001));
        Due.is("1 room far above", 1000000000, wholeRoom(MAX));
        Due.is("1 room just within", 999999999, wholeRoom(999999999));
        Due.is("1 no room at all", 0, wholeRoom(MIN));
    }

    private static int wholeRoom(int room) {
        SweepRows x = new SweepRows(room);
        for (int project = 1; project < 6; project++) {
            x.weight(project, 0);
        }
        return x.share(0);
    }

    private static void promise2Numbers() {
        SweepRows x = new SweepRows(1000000000);
        for (int i = 0; i < 40; i++) {
            Due.is("2 number", i, x.blob(1000000, i % 6));
        }
        Due.is("2 the 41st", -1, x.blob(1, 0));
        Due.is("2 used of 40 great ones", 40000000, x.used(-1));
    }

    private static void promise2WrongInputs() {
        SweepRows x = new SweepRows(1000000000);
        int[][] wrong = {{0, 0}, {-1, 0}, {1000001, 0}, {MIN, 0}, {MAX, 0},
            {1, -1}, {1, 6}, {1, MIN}, {1, MAX}};
        for (int[] pair : wrong) {
            Due.is("2 blob(" + pair[0] + ", " + pair[1] + ")", -1, x.blob(pair[0], pair[1]));
        }
        Due.is("2 least", 0, x.blob(1, 0));
        Due.is("2 most", 1, x.blob(1000000, 5));
        SweepRows full = new SweepRows(0);
        Due.is("2 wrong size before no room", -1, full.blob(0, 0));
        Due.is("2 wrong project before no room", -1, full.blob(1, 6));
        Due.is("2 size too great before no room", -1, full.blob(1000001, 0));
    }

    private static void promise2Room() {
        SweepRows x = new SweepRows(10);
        Due.is("2 fits", 0, x.blob(6, 0));
        Due.is("2 one too many", -2, x.blob(5, 0));
        Due.is("2 fits to the byte", 1, x.blob(4, 1));
        Due.is("2 full", -2, x.blob(1, 2));
        x.begin(6);
        x.tick(1);
        x.step(1);
        Due.is("2 dropped blobs make room", 2, x.blob(6, 2));
    }

    private static void promise2DroppedBlobsCountAmongForty() {
        SweepRows x = new SweepRows(40);
        for (int i = 0; i < 40; i++) {
            x.blob(1, 0);
        }
        Due.is("2 forty before no room", -1, x.blob(1, 0));
        x.begin(0);
        Due.is("2 all dropped", 40, x.step(MAX));
        Due.is("2 still forty", -1, x.blob(1, 0));
        Due.is("2 used", 0, x.used(-1));
    }

    private static void promise5Read() {
        SweepRows x = new SweepRows(100);
        x.blob(10, 0);
        x.blob(10, 0);
        x.tick(4);
        Due.yes("5 read", x.read(1));
        Due.is("5 READ of the other one", 0, x.about(0, 2));
        Due.is("5 READ", 4, x.about(1, 2));
        Due.no("5 none such", x.read(2));
        Due.no("5 below", x.read(-1));
        Due.no("5 far", x.read(MAX));
        Due.no("5 far below", x.read(MIN));
        Due.no("5 by 64 more", x.read(64));
        x.begin(10);
        x.step(1);
        x.tick(1);
        Due.no("5 dropped", x.read(0));
        Due.is("5 READ of a dropped one", 0, x.about(0, 2));
    }

    private static void promise10Tick() {
        SweepRows x = new SweepRows(100);
        Due.is("10 tick 0", 0, x.tick(0));
        Due.is("10 tick", 7, x.tick(7));
        Due.is("10 below", -1, x.tick(-1));
        Due.is("10 above", -1, x.tick(1000001));
        Due.is("10 far", -1, x.tick(MAX));
        Due.is("10 far below", -1, x.tick(MIN));
        Due.is("10 nothing changed", 7, x.tick(0));
        Due.is("10 most", 1000007, x.tick(1000000));
        Due.is("10 blob", 0, x.blob(1, 0));
        Due.is("10 READ when it came", 1000007, x.about(0, 2));
        x.read(0);
        x.build(0);
        x.begin(0);
        x.step(3);
        Due.is("10 by tick alone", 1000007, x.tick(0));
    }

    // Goes beyond 512 calls on purpose: the clock's end cannot be reached within them.
    private static void promise10ClockHasAnEnd() {
        SweepRows x = new SweepRows(100);
        x.blob(100, 0);
        for (int i = 0; i < 999; i++) {
            x.tick(1000000);
        }
        Due.is("10 up to one below the end", 999999999, x.tick(999999));
        Due.is("10 beyond the end", -1, x.tick(2));
        Due.is("10 at the end", 1000000000, x.tick(1));
        Due.is("10 no further", -1, x.tick(1));
        Due.is("10 tick 0 at the end", 1000000000, x.tick(0));
        Due.yes("10 a lease beyond the end", x.lease(0, 1000000));
        Due.yes("10 it has not ended", x.pin(0, false, 0));
    }

    private static void promise19About() {
        SweepRows x = new SweepRows(100);
        x.tick(3);
        x.blob(10, 0);
        x.blob(10, 0);
        Due.is("19 there", 1, x.about(0, 0));
        Due.is("19 not pinned", 0, x.about(0, 1));
        Due.is("19 READ", 3, x.about(0, 2));
        Due.is("19 what 3", -1, x.about(0, 3));
        Due.is("19 what -1", -1, x.about(0, -1));
        Due.is("19 what far", -1, x.about(0, MAX));
        for (int what = 0; what < 3; what++) {
            Due.is("19 none such", -1, x.about(2, what));
            Due.is("19 below", -1, x.about(-1, what));
            Due.is("19 far", -1, x.about(MAX, what));
            Due.is("19 far below", -1, x.about(MIN, what));
        }
        x.pin(7, false, 0);
        Due.is("19 pinned", 1, x.about(0, 1));
        Due.is("19 the other one isn't", 0, x.about(1, 1));
        x.begin(0);
        x.step(1);
        Due.is("19 dropped", 0, x.about(1, 0));
        Due.is("19 dropped and not pinned", 0, x.about(1, 1));
        Due.is("19 READ of a dropped one", 3, x.about(1, 2));
        Due.is("19 a dropped one, another what", -1, x.about(1, 3));
    }

    private static void promise20Used() {
        SweepRows x = new SweepRows(1000);
        for (int project = 0; project < 6; project++) {
            x.blob(10 + project, project);
        }
        x.blob(100, 5);
        Due.is("20 all", 175, x.used(SweepRows.NONE));
        Due.is("20 of 0", 10, x.used(0));
        Due.is("20 of 5", 115, x.used(5));
        Due.is("20 of 6", 0, x.used(6));
        Due.is("20 of -2", 0, x.used(-2));
        Due.is("20 far", 0, x.used(MAX));
        Due.is("20 far below", 0, x.used(MIN));
        x.tick(1);
        x.begin(174);
        x.step(1);
        Due.is("20 after a drop", 75, x.used(-1));
        Due.is("20 of 5 after a drop", 15, x.used(5));
    }
}
