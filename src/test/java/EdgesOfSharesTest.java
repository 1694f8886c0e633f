/** Edges, a test for each sentence that names one: promises 11, 12, 21 and their terms. */
public final class EdgesOfSharesTest {
    private static final int MIN = Integer.MIN_VALUE;
    private static final int MAX = Integer.MAX_VALUE;
    private static final int[] NO_PROJECTS = {MIN, -6, -2, -1, 6, 7, 32, 64, MAX};

    public static void main(String[] args) {
        weightsAreOneAtFirst();
        weightsWithinTheRange();
        weightsBeyondTheRange();
        weightOfNoneSuch();
        weightOfTheFirstAndTheLast();
        fairTwice();
        fairWithoutCandidates();
        fairIfNoneIsOver();
        fairIfAllAreOver();
        overIsMoreThanTheShare();
        overOfTheFirstAndTheLast();
        overOfAShareOfNothing();
        overWithoutWeights();
        overCountsPinnedButNotDroppedOnes();
        fairAsItIsWhenTheOrderIsMade();
        shareOfNoneSuch();
        sharesOfNoRoom();
        sharesOfLittleRoom();
        sharesWithNothingLeft();
        sharesWithTheMostLeft();
        sharesByTheGreatestRemainders();
        sharesOfEqualRemainders();
        sharesOfAllTheWeights();
        sharesOfOneWeight();
        sharesWithoutWeights();
        sharesSumToTheWhole();
        Due.end();
    }

    private static SweepRows weighed(int room, int... w) {
        SweepRows x = new SweepRows(room);
        for (int project = 0; project < w.length; project++) {
            Due.yes("11 weight " + w[project], x.weight(project, w[project]));
        }
        return x;
    }

    // "by WEIGHTS (0 .. 100, at first 1 each)"
    private static void weightsAreOneAtFirst() {
        SweepRows x = new SweepRows(600);
        Due.shares("11 at first", x, 100, 100, 100, 100, 100, 100);
        for (int project = 0; project < 6; project++) {
            Due.yes("11 to what it is", x.weight(project, 1));
        }
        Due.shares("11 the same", x, 100, 100, 100, 100, 100, 100);
        for (int project = 0; project < 6; project++) {
            SweepRows y = new SweepRows(600);
            y.weight(project, 5);
            for (int other = 0; other < 6; other++) {
                Due.is("11 five to one", other == project ? 300 : 60, y.share(other));
            }
        }
    }

    private static void weightsWithinTheRange() {
        SweepRows x = weighed(600, 0, 0, 0, 0, 0, 100);
        for (int w : new int[] {0, 1, 50, 99, 100}) {
            Due.yes("11 weight " + w, x.weight(0, w));
            Due.is("11 share by weight " + w, (600 * w + (100 + w) / 2) / (100 + w), x.share(0));
        }
    }

    // "false if .. it isn't 0 .. 100"
    private static void weightsBeyondTheRange() {
        SweepRows x = weighed(600, 2, 1, 1, 1, 1, 0);
        for (int w : new int[] {MIN, -100, -1, 101, 102, MAX}) {
            Due.no("11 weight(0, " + w + ")", x.weight(0, w));
            Due.no("11 weight(5, " + w + ")", x.weight(5, w));
            Due.shares("11 as they were", x, 200, 100, 100, 100, 100, 0);
        }
    }

    // "false if there is none such"
    private static void weightOfNoneSuch() {
        SweepRows x = new SweepRows(600);
        for (int project : NO_PROJECTS) {
            Due.no("11 weight(" + project + ", 0)", x.weight(project, 0));
            Due.no("11 weight(" + project + ", 100)", x.weight(project, 100));
        }
        Due.shares("11 as they were", x, 100, 100, 100, 100, 100, 100);
    }

    private static void weightOfTheFirstAndTheLast() {
        SweepRows x = new SweepRows(600);
        Due.yes("11 the first", x.weight(0, 0));
        Due.shares("11 without the first", x, 0, 120, 120, 120, 120, 120);
        Due.yes("11 the last", x.weight(5, 0));
        Due.shares("11 without the last", x, 0, 150, 150, 150, 150, 0);
    }

    /** Project 1 is over by 7 bytes, project 0 isn't; without fair, blob 0 goes first. */
    private static SweepRows oneOver() {
        SweepRows x = new SweepRows(60);
        x.blob(10, 0);
        x.blob(9, 1);
        x.blob(8, 1);
        x.tick(1);
        return x;
    }

    // "FAIR is on or off."
    private static void fairTwice() {
        SweepRows x = oneOver();
        x.fair(false);
        x.begin(0);
        Due.order("12 off when it is off", x, 0, 1, 2);
        x.fair(true);
        x.begin(0);
        Due.order("12 on", x, 1, 2, 0);
        x.fair(true);
        x.begin(0);
        Due.order("12 on when it is on", x, 1, 2, 0);
        x.fair(false);
        x.fair(false);
        x.begin(0);
        Due.order("12 off", x, 0, 1, 2);
    }

    private static void fairWithoutCandidates() {
        SweepRows x = new SweepRows(60);
        x.fair(true);
        Due.is("12 no blobs", 0, x.begin(0));
        Due.is("12 none to drop", 0, x.dry(0));
        x.blob(11, 0);
        x.pin(0, false, 0);
        Due.is("12 all are pinned", 0, x.begin(0));
        Due.order("12 all are pinned", x);
    }

    private static void fairIfNoneIsOver() {
        SweepRows x = new SweepRows(60);
        x.fair(true);
        for (int project = 0; project < 6; project++) {
            x.blob(5 + project, project);
        }
        x.tick(1);
        x.begin(0);
        Due.order("12 none is over", x, 5, 4, 3, 2, 1, 0);
    }

    private static void fairIfAllAreOver() {
        SweepRows x = weighed(60, 0, 0, 0, 0, 0, 1);
        x.fair(true);
        for (int project = 0; project < 5; project++) {
            x.blob(5 + project, project);
        }
        x.tick(1);
        x.begin(0);
        Due.order("12 all are over", x, 4, 3, 2, 1, 0);
    }

    // "A PROJECT is OVER if its BLOBS that are there have more bytes than its SHARE."
    private static void overIsMoreThanTheShare() {
        SweepRows x = new SweepRows(60);
        x.fair(true);
        x.blob(9, 0);
        x.blob(5, 5);
        x.blob(4, 5);
        x.tick(1);
        x.begin(0);
        Due.order("12 a byte less than the share", x, 0, 1, 2);
        x.blob(1, 5);
        x.begin(0);
        Due.order("12 just the share", x, 0, 1, 2, 3);
        x.blob(1, 5);
        x.begin(0);
        Due.order("12 a byte more than the share", x, 1, 2, 3, 4, 0);
    }

    private static void overOfTheFirstAndTheLast() {
        for (int over = 0; over < 6; over++) {
            SweepRows x = new SweepRows(60);
            x.fair(true);
            x.blob(10, over == 3 ? 2 : 3);
            x.blob(5, over);
            x.blob(6, over);
            x.tick(1);
            x.begin(0);
            Due.order("12 project " + over + " is over", x, 2, 1, 0);
        }
    }

    private static void overOfAShareOfNothing() {
        SweepRows x = weighed(60, 1, 1, 1, 1, 1, 0);
        x.fair(true);
        x.blob(12, 0);
        x.blob(1, 5);
        x.tick(1);
        x.begin(0);
        Due.order("12 one byte is more than no share", x, 1, 0);
    }

    // "(W 0: all SHARES are 0.)"
    private static void overWithoutWeights() {
        SweepRows x = weighed(60, 0, 0, 0, 0, 0, 0);
        x.fair(true);
        x.blob(1, 0);
        x.blob(20, 1);
        x.tick(1);
        Due.is("12 a sweep without weights", 2, x.begin(0));
        Due.order("12 all are over", x, 1, 0);
    }

    private static void overCountsPinnedButNotDroppedOnes() {
        SweepRows x = oneOver();
        x.fair(true);
        x.pin(0, false, 1);
        x.begin(0);
        Due.order("12 pinned bytes count", x, 2, 0);
        x.step(1);
        Due.is("12 of project 1 nine bytes are left", 9, x.used(1));
        x.free(0);
        x.begin(0);
        Due.order("12 dropped bytes don't", x, 0, 1);
    }

    // "as it is when the ORDER is made"
    private static void fairAsItIsWhenTheOrderIsMade() {
        SweepRows x = oneOver();
        x.fair(true);
        x.begin(0);
        x.fair(false);
        x.weight(1, 100);
        Due.order("12 what comes later changes no order", x, 1, 2, 0);
        Due.is("12 the first step", 1, x.step(1));
        Due.is("12 takes the first", 0, x.about(1, 0));
        Due.is("12 the second step", 1, x.step(1));
        Due.is("12 keeps to the order, though 1 isn't over any more", 0, x.about(2, 0));
    }

    // "0 if there is none such"
    private static void shareOfNoneSuch() {
        SweepRows x = new SweepRows(600);
        for (int project : NO_PROJECTS) {
            Due.is("21 share(" + project + ")", 0, x.share(project));
        }
        Due.is("21 the first", 100, x.share(0));
        Due.is("21 the last", 100, x.share(5));
    }

    private static void sharesOfNoRoom() {
        Due.shares("21 room 0", new SweepRows(0), 0, 0, 0, 0, 0, 0);
        Due.shares("21 room -1", new SweepRows(-1), 0, 0, 0, 0, 0, 0);
        Due.shares("21 room 0, weights", weighed(0, 100, 0, 3, 0, 0, 1), 0, 0, 0, 0, 0, 0);
    }

    // "the bytes that are left go one each to the PROJECTS"
    private static void sharesOfLittleRoom() {
        Due.shares("21 room 1", new SweepRows(1), 1, 0, 0, 0, 0, 0);
        Due.shares("21 room 5", new SweepRows(5), 1, 1, 1, 1, 1, 0);
        Due.shares("21 room 6", new SweepRows(6), 1, 1, 1, 1, 1, 1);
        Due.shares("21 room 7", new SweepRows(7), 2, 1, 1, 1, 1, 1);
    }

    private static void sharesWithNothingLeft() {
        Due.shares("21 nothing left", weighed(100, 50, 30, 10, 5, 4, 1), 50, 30, 10, 5, 4, 1);
        Due.shares("21 nothing left, none for 0", weighed(100, 0, 50, 0, 50, 0, 0), 0, 50, 0, 50, 0, 0);
    }

    private static void sharesWithTheMostLeft() {
        Due.shares("21 five left", new SweepRows(11), 2, 2, 2, 2, 2, 1);
        // 599 times 100 by 600: floors of 99, remainders of 500, five bytes left.
        Due.shares("21 five left, great weights", weighed(599, 100, 100, 100, 100, 100, 100),
            100, 100, 100, 100, 100, 99);
    }

    // "with the greatest remainders of that division"
    private static void sharesByTheGreatestRemainders() {
        // 5 times 1, 2, 3, 4, 0, 0 by 10: floors 0 1 1 2, remainders 5 0 5 0, one byte left.
        Due.shares("21 the lesser of equal ones", weighed(5, 1, 2, 3, 4, 0, 0), 1, 1, 1, 2, 0, 0);
        // 9 times 1, 2, 3, 4 by 10: floors 0 1 2 3, remainders 9 8 7 6, three bytes left.
        Due.shares("21 falling remainders", weighed(9, 1, 2, 3, 4, 0, 0), 1, 2, 3, 3, 0, 0);
        // 1 times 1, 2, 3, 4 by 10: remainders 1 2 3 4, one byte left.
        Due.shares("21 rising remainders", weighed(1, 1, 2, 3, 4, 0, 0), 0, 0, 0, 1, 0, 0);
        // 1 times 99, 100, 100 by 299: the remainder greater by one.
        Due.shares("21 greater by one", weighed(1, 99, 100, 0, 100, 0, 0), 0, 1, 0, 0, 0, 0);
    }

    // "of equal ones the lesser PROJECT"
    private static void sharesOfEqualRemainders() {
        Due.shares("21 all equal", weighed(2, 7, 7, 7, 7, 7, 7), 1, 1, 0, 0, 0, 0);
        Due.shares("21 the last two equal", weighed(1, 0, 0, 0, 0, 9, 9), 0, 0, 0, 0, 1, 0);
        Due.shares("21 the first and the last equal", weighed(3, 9, 0, 0, 0, 0, 9), 2, 0, 0, 0, 0, 1);
    }

    private static void sharesOfAllTheWeights() {
        // 1000000000 by 6: 166666666, remainder 400 of 600, four bytes left.
        Due.shares("21 the most of all", weighed(1000000000, 100, 100, 100, 100, 100, 100),
            166666667, 166666667, 166666667, 166666667, 166666666, 166666666);
        Due.shares("21 room times weight is beyond an int", weighed(1000000000, 100, 0, 0, 0, 0, 100),
            500000000, 0, 0, 0, 0, 500000000);
        Due.shares("21 the greatest against the least", weighed(1000000000, 1, 0, 0, 0, 0, 100),
            9900990, 0, 0, 0, 0, 990099010);
    }

    private static void sharesOfOneWeight() {
        for (int project = 0; project < 6; project++) {
            for (int w : new int[] {1, 100}) {
                int[] all = new int[6];
                all[project] = w;
                SweepRows x = weighed(1000000000, all);
                int[] want = new int[6];
                want[project] = 1000000000;
                Due.shares("21 all for " + project, x, want);
            }
        }
    }

    // "(W 0: all SHARES are 0.)"
    private static void sharesWithoutWeights() {
        SweepRows x = weighed(1000000000, 0, 0, 0, 0, 0, 0);
        Due.shares("21 W 0", x, 0, 0, 0, 0, 0, 0);
        x.weight(5, 1);
        Due.shares("21 W 1", x, 0, 0, 0, 0, 0, 1000000000);
        x.weight(5, 0);
        Due.shares("21 W 0 again", x, 0, 0, 0, 0, 0, 0);
    }

    // "shares of projects that sum to the whole"
    private static void sharesSumToTheWhole() {
        for (int room : new int[] {0, 1, 2, 5, 6, 7, 599, 600, 601, 999999999, 1000000000}) {
            for (int w = 0; w <= 100; w += 10) {
                SweepRows x = weighed(room, w, 100 - w, w / 3, 1, w / 7, 100);
                long sum = 0;
                for (int project = 0; project < 6; project++) {
                    sum += x.share(project);
                }
                Due.is("21 sum in a room " + room + " by " + w, room, sum);
            }
        }
    }
}
