/** Edges, a test for each sentence that names one: promises 1, 2, 5, 10, 19, 20 and their terms. */
public final class EdgesOfBlobsTest {
    private static final int MIN = Integer.MIN_VALUE;
    private static final int MAX = Integer.MAX_VALUE;
    private static final int[] NO_PROJECTS = {MIN, -2, -1, 6, 7, 32, 64, MAX};

    public static void main(String[] args) {
        roomsWithinTheRange();
        roomsBelowTheRange();
        roomsAboveTheRange();
        nothingThere();
        fairOff();
        fortyBlobs();
        droppedBlobsAreAmongTheForty();
        refusedBlobsTakeNoNumber();
        sizes();
        projects();
        usedWouldBeAboveRoom();
        usedWouldBeAboveTheLeastRooms();
        noneGoesBeforeNoRoom();
        readWhenItCame();
        readOfNoneSuch();
        readOfTheFirstAndTheLast();
        readOfADroppedOne();
        readTwiceAtOneTick();
        clockIsZeroAtFirst();
        clockGoesOnByTickAlone();
        ticksWithinTheRange();
        ticksBeyondTheRange();
        clockWouldBeAboveItsEnd();
        aboutNoneSuch();
        aboutAnotherWhat();
        aboutTheFirstAndTheLast();
        aboutADroppedOne();
        usedOfNothing();
        usedOfTheMost();
        usedOfEachProject();
        usedOfAnotherProject();
        Due.end();
    }

    /** Project 0 has all the weight, so that its share tells the room. */
    private static int roomOf(SweepRows x) {
        for (int project = 1; project < 6; project++) {
            x.weight(project, 0);
        }
        return x.share(0);
    }

    // "ROOM: 0 .. 1000000000."
    private static void roomsWithinTheRange() {
        for (int room : new int[] {0, 1, 999999999, 1000000000}) {
            Due.is("1 room " + room, room, roomOf(new SweepRows(room)));
        }
    }

    // "A ROOM (beyond the range: the nearest that isn't)"
    private static void roomsBelowTheRange() {
        for (int room : new int[] {-1, -1000000000, MIN}) {
            Due.is("1 room " + room, 0, roomOf(new SweepRows(room)));
            Due.is("1 blob in a room " + room, -2, new SweepRows(room).blob(1, 0));
        }
    }

    private static void roomsAboveTheRange() {
        for (int room : new int[] {1000000001, 2000000000, MAX}) {
            Due.is("1 room " + room, 1000000000, roomOf(new SweepRows(room)));
            Due.is("1 blob in a room " + room, 0, new SweepRows(room).blob(1000000, 0));
        }
    }

    // "nothing there"
    private static void nothingThere() {
        SweepRows x = new SweepRows(1000);
        for (int blob = 0; blob < 40; blob++) {
            Due.is("1 no blob " + blob, -1, x.about(blob, 0));
            Due.is("1 no order " + blob, -1, x.order(blob));
        }
        for (int result = 0; result < 16; result++) {
            Due.no("1 no result " + result, x.whole(result));
            Due.is("1 no build " + result, -1, x.build(result));
        }
        for (int project = -1; project < 6; project++) {
            Due.is("1 nothing used by " + project, 0, x.used(project));
        }
        for (int what = 0; what < 4; what++) {
            Due.is("1 no sweep, what " + what, -1, x.sweep(what));
        }
        for (int holder = 0; holder < 8; holder++) {
            Due.is("1 no pins of " + holder, 0, x.free(holder));
        }
        Due.is("1 nothing to drop", 0, x.dry(0));
        Due.is("1 no candidates", 0, x.begin(0));
    }

    // "FAIR off"
    private static void fairOff() {
        SweepRows x = new SweepRows(60);
        x.blob(10, 0);
        x.blob(9, 1);
        x.blob(8, 1);
        x.tick(1);
        x.begin(0);
        Due.order("1 project 1 is over, but not first", x, 0, 1, 2);
        Due.is("1 nor in a dry run", 1, x.dry(17));
    }

    // "BLOBS, at most 40, numbered from 0", "NONE if there are 40"
    private static void fortyBlobs() {
        SweepRows x = new SweepRows(1000);
        for (int i = 0; i < 40; i++) {
            Due.is("2 blob " + i, i, x.blob(1, 0));
        }
        Due.is("2 the 41st", -1, x.blob(1, 0));
        Due.is("2 and again", -1, x.blob(1000000, 5));
        Due.is("2 the last one is there", 1, x.about(39, 0));
        Due.is("2 none behind it", -1, x.about(40, 0));
        Due.is("2 used", 40, x.used(-1));
    }

    // BLOBS "are there or were DROPPED"
    private static void droppedBlobsAreAmongTheForty() {
        SweepRows x = new SweepRows(1000);
        for (int i = 0; i < 39; i++) {
            x.blob(1, 0);
        }
        x.begin(0);
        Due.is("2 all are dropped", 39, x.step(40));
        Due.is("2 the last number is free still", 39, x.blob(1, 0));
        Due.is("2 no number is given twice", -1, x.blob(1, 0));
    }

    private static void refusedBlobsTakeNoNumber() {
        SweepRows x = new SweepRows(10);
        Due.is("2 refused for its size", -1, x.blob(0, 0));
        Due.is("2 refused for its project", -1, x.blob(1, 6));
        Due.is("2 refused for the room", -2, x.blob(11, 0));
        Due.is("2 none such yet", -1, x.about(0, 0));
        Due.is("2 nothing used", 0, x.used(-1));
        Due.is("2 the first number", 0, x.blob(10, 0));
    }

    // "SIZE (1 .. 1000000)", "NONE if .. SIZE .. aren't as told"
    private static void sizes() {
        SweepRows x = new SweepRows(1000000000);
        for (int size : new int[] {MIN, -1000000, -1, 0, 1000001, MAX}) {
            Due.is("2 size " + size, -1, x.blob(size, 0));
        }
        Due.is("2 nothing used", 0, x.used(-1));
        int number = 0;
        for (int size : new int[] {1, 2, 999999, 1000000}) {
            int before = x.used(-1);
            Due.is("2 size " + size, number, x.blob(size, 0));
            Due.is("2 used by size " + size, size, x.used(-1) - before);
            number++;
        }
    }

    // "a PROJECT 0 .. 5", "NONE if .. PROJECT aren't as told"
    private static void projects() {
        SweepRows x = new SweepRows(1000);
        for (int project : NO_PROJECTS) {
            Due.is("2 project " + project, -1, x.blob(1, project));
        }
        for (int project = 0; project < 6; project++) {
            Due.is("2 project " + project, project, x.blob(1 + project, project));
            Due.is("2 used by project " + project, 1 + project, x.used(project));
        }
    }

    // "- 2 if USED would be above ROOM"
    private static void usedWouldBeAboveRoom() {
        SweepRows x = new SweepRows(100);
        Due.is("2 one byte above from empty", -2, x.blob(101, 0));
        Due.is("2 far above", -2, x.blob(1000000, 0));
        Due.is("2 the whole room but one", 0, x.blob(99, 0));
        Due.is("2 one byte above", -2, x.blob(2, 5));
        Due.is("2 just the room", 1, x.blob(1, 5));
        Due.is("2 one byte above from full", -2, x.blob(1, 0));
        x.tick(1);
        x.begin(99);
        Due.is("2 the great one goes", 1, x.step(1));
        Due.is("2 one byte above after a drop", -2, x.blob(100, 0));
        Due.is("2 just the room after a drop", 2, x.blob(99, 0));
    }

    private static void usedWouldBeAboveTheLeastRooms() {
        Due.is("2 room 0, size 1", -2, new SweepRows(0).blob(1, 0));
        SweepRows one = new SweepRows(1);
        Due.is("2 room 1, size 2", -2, one.blob(2, 0));
        Due.is("2 room 1, size 1", 0, one.blob(1, 0));
        Due.is("2 room 1, once more", -2, one.blob(1, 0));
        Due.is("2 room 999999, size 1000000", -2, new SweepRows(999999).blob(1000000, 0));
        Due.is("2 room 1000000, size 1000000", 0, new SweepRows(1000000).blob(1000000, 0));
    }

    // "NONE if ..; else - 2"
    private static void noneGoesBeforeNoRoom() {
        SweepRows x = new SweepRows(0);
        Due.is("2 size 0 without room", -1, x.blob(0, 0));
        Due.is("2 size 1000001 without room", -1, x.blob(1000001, 0));
        Due.is("2 project -1 without room", -1, x.blob(1, -1));
        Due.is("2 project 6 without room", -1, x.blob(1, 6));
        SweepRows full = new SweepRows(40);
        for (int i = 0; i < 40; i++) {
            Due.is("2 up to forty there is room", i, full.blob(1, 0));
        }
        Due.is("2 forty without room", -1, full.blob(1, 0));
    }

    // "A new BLOB, READ now"
    private static void readWhenItCame() {
        SweepRows x = new SweepRows(100);
        x.blob(1, 0);
        Due.is("2 READ at clock 0", 0, x.about(0, 2));
        x.tick(1000000);
        x.blob(1, 0);
        Due.is("2 READ when it came", 1000000, x.about(1, 2));
        Due.is("2 the first one's stays", 0, x.about(0, 2));
    }

    // "false if it isn't there"
    private static void readOfNoneSuch() {
        SweepRows x = new SweepRows(100);
        Due.no("5 read before there are any", x.read(0));
        x.blob(1, 0);
        x.tick(1);
        for (int blob : new int[] {MIN, -64, -1, 1, 39, 40, 41, 63, 64, 128, MAX}) {
            Due.no("5 read(" + blob + ")", x.read(blob));
        }
        Due.is("5 blob 0 was not read by that", 0, x.about(0, 2));
    }

    private static void readOfTheFirstAndTheLast() {
        SweepRows x = new SweepRows(100);
        for (int i = 0; i < 40; i++) {
            x.blob(1, 0);
        }
        x.tick(7);
        Due.yes("5 the first", x.read(0));
        Due.yes("5 the last", x.read(39));
        for (int i = 0; i < 40; i++) {
            Due.is("5 READ of " + i, i == 0 || i == 39 ? 7 : 0, x.about(i, 2));
        }
    }

    private static void readOfADroppedOne() {
        SweepRows x = new SweepRows(100);
        x.blob(1, 0);
        x.tick(3);
        x.begin(0);
        x.step(1);
        Due.no("5 dropped", x.read(0));
        Due.is("5 its READ stays", 0, x.about(0, 2));
        Due.is("5 it does not come back", 0, x.about(0, 0));
    }

    // "READ of a BLOB: the CLOCK when it came, or was read last"
    private static void readTwiceAtOneTick() {
        SweepRows x = new SweepRows(100);
        x.blob(1, 0);
        Due.yes("5 at the tick when it came", x.read(0));
        Due.is("5 READ", 0, x.about(0, 2));
        x.tick(1);
        Due.yes("5 once", x.read(0));
        Due.yes("5 twice", x.read(0));
        Due.is("5 READ", 1, x.about(0, 2));
        x.tick(1);
        Due.is("5 READ stays", 1, x.about(0, 2));
    }

    // "CLOCK: 0 at first"
    private static void clockIsZeroAtFirst() {
        SweepRows x = new SweepRows(100);
        Due.is("10 tick(0) at first", 0, x.tick(0));
        Due.is("10 tick(1)", 1, x.tick(1));
    }

    // "it goes on by tick alone"
    private static void clockGoesOnByTickAlone() {
        SweepRows x = new SweepRows(100);
        x.tick(9);
        x.blob(1, 0);
        x.result();
        x.uses(0, 0);
        x.read(0);
        x.build(0);
        x.pin(0, true, 0);
        x.lease(0, 5);
        x.free(0);
        x.weight(0, 5);
        x.fair(true);
        x.dry(0);
        x.begin(0);
        x.cut(true);
        x.cut(false);
        x.step(5);
        Due.is("10 the clock", 9, x.tick(0));
    }

    // "The CLOCK goes on (0 .. 1000000): the CLOCK"
    private static void ticksWithinTheRange() {
        SweepRows x = new SweepRows(100);
        int clock = 0;
        for (int n : new int[] {0, 1, 999999, 1000000, 0}) {
            clock += n;
            Due.is("10 tick(" + n + ")", clock, x.tick(n));
        }
    }

    // "NONE if it isn't so"
    private static void ticksBeyondTheRange() {
        SweepRows x = new SweepRows(100);
        x.tick(5);
        for (int n : new int[] {MIN, -1000000, -5, -1, 1000001, 1000000000, MAX}) {
            Due.is("10 tick(" + n + ")", -1, x.tick(n));
            Due.is("10 the clock stays", 5, x.tick(0));
        }
    }

    // "or the CLOCK would be above 1000000000": 512 calls do not reach it, so this run is longer.
    private static void clockWouldBeAboveItsEnd() {
        SweepRows x = new SweepRows(100);
        for (int i = 0; i < 999; i++) {
            x.tick(1000000);
        }
        Due.is("10 half a step before the end", 999500000, x.tick(500000));
        Due.is("10 a whole step more", -1, x.tick(1000000));
        Due.is("10 one beyond the end", -1, x.tick(500001));
        Due.is("10 the clock stays", 999500000, x.tick(0));
        Due.is("10 just the end", 1000000000, x.tick(500000));
        Due.is("10 one more", -1, x.tick(1));
        Due.is("10 none more", 1000000000, x.tick(0));
    }

    // "NONE if there is none such"
    private static void aboutNoneSuch() {
        SweepRows x = new SweepRows(100);
        x.blob(1, 0);
        for (int blob : new int[] {MIN, -64, -1, 1, 39, 40, 63, 64, MAX}) {
            for (int what = -1; what < 4; what++) {
                Due.is("19 about(" + blob + ", " + what + ")", -1, x.about(blob, what));
            }
        }
    }

    // "or for another what"
    private static void aboutAnotherWhat() {
        SweepRows x = new SweepRows(100);
        x.blob(1, 0);
        for (int what : new int[] {MIN, -2, -1, 3, 4, MAX}) {
            Due.is("19 about(0, " + what + ")", -1, x.about(0, what));
        }
    }

    // "0 whether it is there (1, 0), 1 whether it is PINNED (1, 0), 2 READ"
    private static void aboutTheFirstAndTheLast() {
        SweepRows x = new SweepRows(100);
        for (int i = 0; i < 39; i++) {
            x.blob(1, 0);
        }
        x.tick(2);
        x.blob(1, 0);
        x.pin(0, false, 39);
        Due.is("19 the first is there", 1, x.about(0, 0));
        Due.is("19 the first isn't pinned", 0, x.about(0, 1));
        Due.is("19 READ of the first", 0, x.about(0, 2));
        Due.is("19 the last is there", 1, x.about(39, 0));
        Due.is("19 the last is pinned", 1, x.about(39, 1));
        Due.is("19 READ of the last", 2, x.about(39, 2));
    }

    private static void aboutADroppedOne() {
        SweepRows x = new SweepRows(100);
        x.tick(4);
        x.blob(1, 0);
        x.begin(0);
        x.step(1);
        x.tick(1);
        Due.is("19 a dropped one isn't there", 0, x.about(0, 0));
        Due.is("19 nor pinned", 0, x.about(0, 1));
        Due.is("19 but has its READ", 4, x.about(0, 2));
        Due.is("19 and no other what", -1, x.about(0, 3));
    }

    // "USED: the sum of the SIZES of those that are there."
    private static void usedOfNothing() {
        SweepRows x = new SweepRows(100);
        x.blob(7, 3);
        x.begin(0);
        x.step(1);
        for (int project = -1; project < 6; project++) {
            Due.is("20 all are dropped: used(" + project + ")", 0, x.used(project));
        }
    }

    private static void usedOfTheMost() {
        SweepRows x = new SweepRows(40000000);
        for (int i = 0; i < 40; i++) {
            x.blob(1000000, 5);
        }
        Due.is("20 forty of the greatest", 40000000, x.used(SweepRows.NONE));
        Due.is("20 of one project", 40000000, x.used(5));
        Due.is("20 of another", 0, x.used(4));
    }

    // "USED (NONE: of all), or of a PROJECT"
    private static void usedOfEachProject() {
        SweepRows x = new SweepRows(1000);
        for (int project = 0; project < 6; project++) {
            x.blob(1 << project, project);
        }
        for (int project = 0; project < 6; project++) {
            Due.is("20 used(" + project + ")", 1 << project, x.used(project));
        }
        Due.is("20 used(NONE)", 63, x.used(SweepRows.NONE));
    }

    // "0 for another one"
    private static void usedOfAnotherProject() {
        SweepRows x = new SweepRows(1000);
        x.blob(9, 0);
        x.blob(9, 5);
        for (int project : new int[] {MIN, -2, 6, 7, MAX}) {
            Due.is("20 used(" + project + ")", 0, x.used(project));
        }
    }
}
