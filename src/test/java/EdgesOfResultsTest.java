/** Edges, a test for each sentence that names one: promises 3, 4, 6, 22 and their terms. */
public final class EdgesOfResultsTest {
    private static final int MIN = Integer.MIN_VALUE;
    private static final int MAX = Integer.MAX_VALUE;
    private static final int[] NO_RESULTS_BUT_ZERO = {MIN, -32, -1, 1, 15, 16, 17, 32, 64, MAX};
    private static final int[] NO_BLOBS_BUT_ZERO = {MIN, -64, -1, 1, 39, 40, 41, 63, 64, 128, MAX};

    public static void main(String[] args) {
        sixteenResults();
        newResultsUseNothing();
        usesOfNoSuchResult();
        usesOfNoSuchBlob();
        usesAlready();
        usesAtMostEight();
        usesEightWithDroppedOnes();
        usesOfADroppedBlob();
        usesOfTheLastOnes();
        refusedUsesLeaveNoTrace();
        buildOfNoneSuch();
        buildOfAnEmptyOne();
        buildOfEight();
        buildOfOneThatIsNotWhole();
        wholeOfNoneSuch();
        wholeOfAnEmptyOne();
        wholeOfEight();
        Due.end();
    }

    /** All blobs but that one are read since begin, so that it alone is dropped. */
    private static void dropOnly(SweepRows x, int blob, int blobs) {
        x.begin(0);
        for (int i = 0; i < blobs; i++) {
            if (i != blob) {
                x.read(i);
            }
        }
        Due.is("one is dropped", 1, x.step(41));
        Due.is("it is blob " + blob, 0, x.about(blob, 0));
    }

    // "RESULTS, at most 16, numbered from 0", "NONE if there are 16"
    private static void sixteenResults() {
        SweepRows x = new SweepRows(0);
        for (int i = 0; i < 16; i++) {
            Due.no("3 not yet " + i, x.whole(i));
            Due.is("3 result " + i, i, x.result());
        }
        Due.is("3 the 17th", -1, x.result());
        Due.is("3 and again", -1, x.result());
        Due.no("3 none behind the last", x.whole(16));
    }

    // "A new RESULT that uses nothing"
    private static void newResultsUseNothing() {
        SweepRows x = Stores.with(0, 1);
        x.result();
        x.uses(0, 0);
        x.result();
        x.tick(5);
        Due.is("3 build of the new one", 1, x.build(1));
        Due.is("3 it reads nothing", 0, x.about(0, 2));
        x.pin(0, true, 1);
        Due.is("3 its pin pins nothing", 0, x.about(0, 1));
    }

    // "false if there are none such"
    private static void usesOfNoSuchResult() {
        SweepRows none = Stores.with(0, 1);
        Due.no("4 before there are any", none.uses(0, 0));
        SweepRows x = Stores.with(1, 1);
        for (int result : NO_RESULTS_BUT_ZERO) {
            Due.no("4 uses(" + result + ", 0)", x.uses(result, 0));
        }
        x.tick(1);
        x.build(0);
        Due.is("4 result 0 does not use it by that", 0, x.about(0, 2));
    }

    private static void usesOfNoSuchBlob() {
        SweepRows none = Stores.with(1, 0);
        Due.no("4 before there are any", none.uses(0, 0));
        SweepRows x = Stores.with(1, 1);
        for (int blob : NO_BLOBS_BUT_ZERO) {
            Due.no("4 uses(0, " + blob + ")", x.uses(0, blob));
        }
        x.tick(1);
        x.build(0);
        Due.is("4 blob 0 is not used by that", 0, x.about(0, 2));
        Due.no("4 neither", x.uses(1, 1));
    }

    // "it does already": "(no two the same)"
    private static void usesAlready() {
        SweepRows x = Stores.with(2, 8);
        Due.yes("4 once", x.uses(0, 0));
        Due.no("4 twice", x.uses(0, 0));
        Due.yes("4 by another result", x.uses(1, 0));
        for (int blob = 1; blob < 8; blob++) {
            Due.yes("4 the refused one is none of the eight: " + blob, x.uses(0, blob));
            Due.no("4 again " + blob, x.uses(0, blob));
        }
        Due.no("4 the first again, with eight", x.uses(0, 0));
    }

    // "USE BLOBS, at most 8", "it has 8"
    private static void usesAtMostEight() {
        SweepRows x = Stores.with(2, 10);
        for (int blob = 0; blob < 8; blob++) {
            Due.yes("4 uses(0, " + blob + ")", x.uses(0, blob));
        }
        Due.no("4 the ninth", x.uses(0, 8));
        Due.no("4 another ninth", x.uses(0, 9));
        for (int blob = 9; blob > 1; blob--) {
            Due.yes("4 uses(1, " + blob + ")", x.uses(1, blob));
        }
        Due.no("4 the ninth of another result", x.uses(1, 0));
        x.tick(1);
        x.build(0);
        Due.is("4 the eighth is used", 1, x.about(7, 2));
        Due.is("4 the ninth isn't", 0, x.about(8, 2));
    }

    private static void usesEightWithDroppedOnes() {
        SweepRows x = Stores.with(1, 9);
        for (int blob = 0; blob < 8; blob++) {
            x.uses(0, blob);
        }
        dropOnly(x, 3, 9);
        Due.no("4 the dropped one is among the eight", x.uses(0, 8));
        Due.no("4 nor is it used anew", x.uses(0, 3));
    }

    // "or the BLOB isn't there"
    private static void usesOfADroppedBlob() {
        SweepRows x = Stores.with(2, 2);
        x.uses(0, 0);
        dropOnly(x, 0, 2);
        Due.no("4 a dropped one", x.uses(1, 0));
        Due.yes("4 the result is whole still", x.whole(1));
        Due.yes("4 one that is there", x.uses(1, 1));
        Due.no("4 a dropped one that it uses already", x.uses(0, 0));
        Due.yes("4 a result that isn't whole may use more", x.uses(0, 1));
    }

    private static void usesOfTheLastOnes() {
        SweepRows x = Stores.with(16, 40);
        Due.yes("4 the last result, the last blob", x.uses(15, 39));
        Due.yes("4 the last result, the first blob", x.uses(15, 0));
        Due.yes("4 the first result, the last blob", x.uses(0, 39));
        Due.no("4 the 17th result", x.uses(16, 0));
        Due.no("4 the 41st blob", x.uses(15, 40));
        x.tick(1);
        Due.is("4 build", 1, x.build(15));
        for (int blob = 0; blob < 40; blob++) {
            Due.is("4 READ of " + blob, blob == 0 || blob == 39 ? 1 : 0, x.about(blob, 2));
        }
    }

    private static void refusedUsesLeaveNoTrace() {
        SweepRows x = Stores.with(2, 2);
        dropOnly(x, 1, 2);
        x.uses(0, 1);
        x.uses(0, 2);
        x.uses(0, -1);
        Due.yes("4 it uses none of them", x.whole(0));
        for (int i = 0; i < 8; i++) {
            Due.is("4 blobs for eight", 2 + i, x.blob(1, 0));
            Due.yes("4 it may use eight", x.uses(0, 2 + i));
        }
        Due.no("4 and not nine", x.uses(0, 0));
    }

    // "NONE if there is none such"
    private static void buildOfNoneSuch() {
        Due.is("6 before there are any", -1, new SweepRows(100).build(0));
        SweepRows x = Stores.with(1, 1);
        x.uses(0, 0);
        x.tick(1);
        for (int result : NO_RESULTS_BUT_ZERO) {
            Due.is("6 build(" + result + ")", -1, x.build(result));
        }
        Due.is("6 nothing is read", 0, x.about(0, 2));
        SweepRows full = Stores.with(16, 0);
        Due.is("6 the last", 1, full.build(15));
        Due.is("6 beyond the last", -1, full.build(16));
    }

    // "A WHOLE RESULT's BLOBS all are read: 1"
    private static void buildOfAnEmptyOne() {
        SweepRows x = Stores.with(1, 1);
        x.tick(1);
        Due.is("6 of nothing", 1, x.build(0));
        Due.is("6 nothing is read", 0, x.about(0, 2));
    }

    private static void buildOfEight() {
        SweepRows x = Stores.with(1, 10);
        for (int blob = 1; blob < 9; blob++) {
            x.uses(0, blob);
        }
        x.tick(1);
        Due.is("6 of eight", 1, x.build(0));
        for (int blob = 0; blob < 10; blob++) {
            Due.is("6 READ of " + blob, blob == 0 || blob == 9 ? 0 : 1, x.about(blob, 2));
        }
    }

    // "0 if it isn't WHOLE (nothing is read)"
    private static void buildOfOneThatIsNotWhole() {
        SweepRows x = Stores.with(1, 9);
        for (int blob = 0; blob < 8; blob++) {
            x.uses(0, blob);
        }
        dropOnly(x, 7, 9);
        x.tick(1);
        x.begin(0);
        Due.is("6 one of eight is dropped", 0, x.build(0));
        for (int blob = 0; blob < 8; blob++) {
            Due.is("6 READ of " + blob, 0, x.about(blob, 2));
        }
        Due.is("6 nor does it spare one from a sweep", 8, x.step(41));
        Due.is("6 all are dropped", 0, x.build(0));
    }

    // "false if there is none such"
    private static void wholeOfNoneSuch() {
        Due.no("22 before there are any", new SweepRows(100).whole(0));
        SweepRows x = Stores.with(1, 1);
        for (int result : NO_RESULTS_BUT_ZERO) {
            Due.no("22 whole(" + result + ")", x.whole(result));
        }
        SweepRows full = Stores.with(16, 0);
        Due.yes("22 the last", full.whole(15));
        Due.no("22 beyond the last", full.whole(16));
    }

    // "one is WHOLE if all of them are there"
    private static void wholeOfAnEmptyOne() {
        SweepRows x = Stores.with(1, 1);
        Due.yes("22 of nothing", x.whole(0));
        dropOnly(x, 0, 1);
        Due.yes("22 of nothing, all dropped", x.whole(0));
    }

    private static void wholeOfEight() {
        for (int gone = 0; gone < 9; gone++) {
            SweepRows x = Stores.with(1, 9);
            for (int blob = 0; blob < 8; blob++) {
                x.uses(0, blob);
            }
            Due.yes("22 of eight", x.whole(0));
            dropOnly(x, gone, 9);
            Due.is("22 of eight without " + gone, gone == 8 ? 1 : 0, x.whole(0) ? 1 : 0);
        }
    }
}
