/** Edges, a test for each sentence that names one: promises 13 to 18 and their terms. */
public final class EdgesOfSweepsTest {
    private static final int MIN = Integer.MIN_VALUE;
    private static final int MAX = Integer.MAX_VALUE;

    public static void main(String[] args) {
        beginWithAWishBelowZero();
        beginWithTheLeastAndTheGreatestWish();
        beginOfNothing();
        beginWithAllPinned();
        beginOfForty();
        beginEndsTheOneBefore();
        beginIsNotOver();
        stepWithoutASweep();
        stepOfASweepThatIsOver();
        stepOfASweepThatIsCut();
        stepsBelowZero();
        stepsOfZero();
        stepsAtMostSoMany();
        stepsFarBeyondTheOrder();
        stepIfUsedIsTheWish();
        stepIfUsedIsOneAboveTheWish();
        stepIfUsedComesAboveTheWish();
        stepIfNoneIsNext();
        stepSparesWhatWasReadAtTheTickOfBegin();
        stepSparesNotWhatWasReadBefore();
        stepSparesWhatWasBuilt();
        stepSparesWhatCameToBePinned();
        stepSparesNotWhatIsFreeAgain();
        stepCountsNoSparedOnes();
        sparedOnesStayForTheNextSweep();
        cutWithoutASweep();
        cutOfASweepThatIsOver();
        cutAlready();
        cutIsNoStep();
        sweepIfThereWasNone();
        sweepAnotherWhat();
        sweepAtTheFirstAndTheLastStep();
        orderIfThereWasNone();
        orderBeyondItsEnds();
        orderOfForty();
        orderByEqualProducts();
        orderOfAgeZero();
        orderOfTheGreatestProducts();
        dryWithAWishBelowZero();
        dryAroundUsed();
        dryOfNothing();
        dryOfForty();
        dryChangesNothing();
        Due.end();
    }

    private static SweepRows ones(int count) {
        SweepRows x = new SweepRows(1000);
        for (int i = 0; i < count; i++) {
            x.blob(1, 0);
        }
        return x;
    }

    /** Blobs 0, 1, 2 of 30, 20 and 10 bytes, in this order. */
    private static SweepRows three() {
        SweepRows x = new SweepRows(100);
        x.blob(30, 0);
        x.blob(20, 0);
        x.blob(10, 0);
        x.tick(1);
        return x;
    }

    // "NONE if the WISH is below 0"
    private static void beginWithAWishBelowZero() {
        SweepRows x = three();
        Due.is("13 wish -1", -1, x.begin(-1));
        Due.is("13 wish far below", -1, x.begin(MIN));
        Due.is("13 there was none by that", -1, x.sweep(3));
        Due.is("13 nor an order", -1, x.order(0));
        Due.is("13 nor a step", -1, x.step(1));
        x.begin(0);
        x.step(1);
        x.read(1);
        Due.is("13 wish -1 in a sweep", -1, x.begin(-1));
        Due.sweep("13 it goes on", x, 1, 0, 1, 0);
        Due.is("13 with its reads", 1, x.step(9));
        Due.sweep("13 to its end", x, 3, 1, 2, 1);
    }

    private static void beginWithTheLeastAndTheGreatestWish() {
        SweepRows x = three();
        Due.is("13 wish MAX", 3, x.begin(MAX));
        Due.is("13 drops nothing", 0, x.step(9));
        Due.is("13 wish 0", 3, x.begin(0));
        Due.is("13 drops all", 3, x.step(9));
    }

    // "how many CANDIDATES there are"
    private static void beginOfNothing() {
        SweepRows x = three();
        Due.is("13 no blobs", 0, new SweepRows(0).begin(0));
        x.begin(0);
        x.step(9);
        Due.is("13 all are dropped", 0, x.begin(0));
        Due.order("13 all are dropped", x);
        Due.sweep("13 not over yet", x, 0, 0, 0, 0);
        Due.is("13 a step of it", 0, x.step(1));
        Due.sweep("13 over", x, 0, 0, 0, 1);
    }

    private static void beginWithAllPinned() {
        SweepRows x = three();
        x.result();
        x.uses(0, 1);
        x.uses(0, 2);
        x.pin(0, false, 0);
        x.pin(1, true, 0);
        Due.is("13 all are pinned", 0, x.begin(0));
        Due.is("13 none is next, though used is above the wish", 0, x.step(1));
        Due.sweep("13 over", x, 0, 0, 0, 1);
        x.free(1);
        Due.is("13 one is pinned", 2, x.begin(0));
        Due.order("13 one is pinned", x, 1, 2);
    }

    private static void beginOfForty() {
        SweepRows x = ones(40);
        Due.is("13 forty", 40, x.begin(0));
        x.step(39);
        Due.is("13 one is left", 1, x.begin(0));
        Due.order("13 the last", x, 39);
    }

    // "(the one before is OVER)"
    private static void beginEndsTheOneBefore() {
        SweepRows x = three();
        x.begin(0);
        x.read(0);
        x.step(2);
        x.cut(true);
        Due.is("13 anew, in a cut", 2, x.begin(0));
        Due.sweep("13 anew", x, 0, 0, 0, 0);
        Due.order("13 anew", x, 2, 0);
        Due.no("13 it isn't cut", x.cut(false));
        Due.is("13 nor spares what was read before", 2, x.step(9));
    }

    private static void beginIsNotOver() {
        SweepRows x = three();
        x.begin(100);
        Due.is("13 not over before a step, though its wish is met", 0, x.sweep(3));
        Due.yes("13 so it can be cut", x.cut(true));
    }

    // "NONE if there is no SWEEP that isn't OVER"
    private static void stepWithoutASweep() {
        SweepRows x = three();
        for (int n : new int[] {MIN, -1, 0, 1, MAX}) {
            Due.is("14 no sweep: step(" + n + ")", -1, x.step(n));
        }
        x.dry(0);
        Due.is("14 a dry run is none", -1, x.step(1));
        Due.is("14 nothing was dropped", 60, x.used(-1));
    }

    private static void stepOfASweepThatIsOver() {
        SweepRows x = three();
        x.begin(60);
        x.step(1);
        x.blob(40, 0);
        for (int n : new int[] {MIN, -1, 0, 1, MAX}) {
            Due.is("14 over: step(" + n + ")", -1, x.step(n));
        }
        Due.is("14 nothing was dropped, though used is above the wish", 100, x.used(-1));
        Due.sweep("14 as it was", x, 0, 0, 0, 1);
    }

    // "it is CUT": "A SWEEP that is CUT makes no STEPS till it goes on."
    private static void stepOfASweepThatIsCut() {
        SweepRows x = three();
        x.begin(0);
        x.step(1);
        x.cut(true);
        for (int n : new int[] {MIN, -1, 0, 1, MAX}) {
            Due.is("14 cut: step(" + n + ")", -1, x.step(n));
        }
        Due.sweep("14 as it was", x, 1, 0, 1, 0);
        x.cut(false);
        Due.is("14 it goes on where it was", 1, x.step(1));
        Due.is("14 with the next one", 0, x.about(1, 0));
    }

    // "or n is below 0"
    private static void stepsBelowZero() {
        SweepRows x = three();
        x.begin(0);
        for (int n : new int[] {MIN, -1000000, -1}) {
            Due.is("14 step(" + n + ")", -1, x.step(n));
        }
        Due.sweep("14 as it was", x, 0, 0, 0, 0);
    }

    // "(n: 0 or more)"
    private static void stepsOfZero() {
        SweepRows x = three();
        x.begin(60);
        Due.is("14 step(0)", 0, x.step(0));
        Due.is("14 finds not that it is over", 0, x.sweep(3));
        x.begin(0);
        Due.is("14 step(0) above the wish", 0, x.step(0));
        Due.sweep("14 takes nothing", x, 0, 0, 0, 0);
    }

    // "At most n STEPS"
    private static void stepsAtMostSoMany() {
        for (int n = 0; n <= 3; n++) {
            SweepRows x = three();
            x.begin(0);
            Due.is("14 step(" + n + ")", n, x.step(n));
            Due.sweep("14 step(" + n + ")", x, n, 0, n, 0);
        }
        SweepRows x = three();
        x.begin(0);
        Due.is("14 step(4): the fourth finds that it is over", 3, x.step(4));
        Due.sweep("14 step(4)", x, 3, 0, 3, 1);
    }

    private static void stepsFarBeyondTheOrder() {
        for (int n : new int[] {41, 1000000, MAX}) {
            SweepRows x = ones(40);
            x.begin(0);
            Due.is("14 step(" + n + ")", 40, x.step(n));
            Due.sweep("14 step(" + n + ")", x, 40, 0, 40, 1);
        }
        SweepRows x = ones(40);
        x.begin(0);
        Due.is("14 step(40)", 40, x.step(40));
        Due.sweep("14 step(40)", x, 40, 0, 40, 0);
    }

    // "first, if USED isn't above the WISH, .. the SWEEP is OVER"
    private static void stepIfUsedIsTheWish() {
        SweepRows x = three();
        x.begin(60);
        Due.is("14 used is the wish", 0, x.step(1));
        Due.sweep("14 over, none was taken", x, 0, 0, 0, 1);
        x.begin(61);
        Due.is("14 used is below the wish", 0, x.step(1));
        Due.sweep("14 over, none was taken", x, 0, 0, 0, 1);
        x.begin(30);
        Due.is("14 comes down to the wish", 1, x.step(9));
        Due.sweep("14 over at the wish", x, 1, 0, 1, 1);
    }

    private static void stepIfUsedIsOneAboveTheWish() {
        SweepRows x = three();
        x.begin(59);
        Due.is("14 one above the wish", 1, x.step(9));
        Due.sweep("14 over below it", x, 1, 0, 1, 1);
        x.begin(29);
        Due.is("14 one above the wish again", 1, x.step(9));
        Due.is("14 used", 10, x.used(-1));
    }

    private static void stepIfUsedComesAboveTheWish() {
        SweepRows x = three();
        x.begin(60);
        x.blob(1, 0);
        Due.is("14 a blob came since begin", 1, x.step(9));
        Due.is("14 the first of the order went", 0, x.about(0, 0));
        SweepRows y = three();
        y.begin(30);
        y.step(1);
        y.blob(1, 0);
        Due.is("14 a blob came since the step before", 1, y.step(9));
        Due.is("14 the next of the order went", 0, y.about(1, 0));
    }

    // "or none is next, the SWEEP is OVER"
    private static void stepIfNoneIsNext() {
        SweepRows x = three();
        x.pin(0, false, 0);
        x.begin(0);
        Due.is("14 all of the order", 2, x.step(2));
        Due.sweep("14 not over yet", x, 2, 0, 2, 0);
        Due.is("14 none is next", 0, x.step(1));
        Due.sweep("14 over above the wish", x, 2, 0, 2, 1);
        Due.is("14 used", 30, x.used(-1));
    }

    // "a CANDIDATE that has been read .. since begin is SPARED"
    private static void stepSparesWhatWasReadAtTheTickOfBegin() {
        SweepRows x = three();
        x.begin(0);
        x.read(0);
        x.tick(1);
        x.read(2);
        Due.is("14 read at the tick of begin", 0, x.step(1));
        Due.is("14 spared", 1, x.about(0, 0));
        Due.is("14 read later", 1, x.step(2));
        Due.sweep("14 two were spared", x, 3, 2, 1, 0);
    }

    private static void stepSparesNotWhatWasReadBefore() {
        SweepRows x = three();
        x.read(0);
        x.begin(0);
        Due.is("14 read at the tick of begin, but before it", 3, x.step(3));
        SweepRows y = three();
        y.blob(5, 0);
        y.begin(0);
        Due.is("14 one that came at the tick of begin", 4, y.step(4));
        SweepRows z = three();
        z.begin(0);
        z.step(1);
        Due.no("14 a refused read", z.read(0));
        Due.no("14 of none such", z.read(66));
        Due.is("14 spares nothing", 2, z.step(2));
    }

    private static void stepSparesWhatWasBuilt() {
        SweepRows x = three();
        x.result();
        x.uses(0, 0);
        x.uses(0, 2);
        x.begin(0);
        x.build(0);
        Due.is("14 all that build reads", 1, x.step(9));
        Due.sweep("14 two were spared", x, 3, 2, 1, 1);
    }

    // "or has come to be PINNED"
    private static void stepSparesWhatCameToBePinned() {
        SweepRows x = three();
        x.result();
        x.pin(1, true, 0);
        x.begin(0);
        x.pin(0, false, 0);
        x.uses(0, 2);
        Due.is("14 pinned by itself, and by a result that uses it later", 1, x.step(9));
        Due.sweep("14 two were spared", x, 3, 2, 1, 1);
        Due.is("14 they are there", 40, x.used(-1));
    }

    private static void stepSparesNotWhatIsFreeAgain() {
        SweepRows x = three();
        x.begin(0);
        x.pin(0, false, 0);
        x.pin(1, false, 1);
        x.lease(1, 1);
        x.free(0);
        x.tick(1);
        Due.is("14 freed, or at the end of the lease", 3, x.step(3));
        SweepRows z = three();
        z.result();
        z.uses(0, 0);
        z.begin(0);
        z.pin(0, true, 0);
        z.free(0);
        Due.is("14 freed with its result", 3, z.step(3));
        SweepRows y = three();
        y.begin(0);
        y.pin(0, false, 0);
        y.lease(0, 2);
        y.tick(1);
        Due.is("14 one before the end of the lease", 0, y.step(1));
        Due.sweep("14 spared", y, 1, 1, 0, 0);
    }

    // "how many BLOBS were DROPPED"
    private static void stepCountsNoSparedOnes() {
        SweepRows x = three();
        x.begin(0);
        x.read(0);
        x.read(1);
        x.read(2);
        Due.is("14 all are spared", 0, x.step(3));
        Due.sweep("14 all are spared", x, 3, 3, 0, 0);
        Due.is("14 none is next", 0, x.step(1));
        Due.sweep("14 over", x, 3, 3, 0, 1);
        Due.is("14 used", 60, x.used(-1));
    }

    private static void sparedOnesStayForTheNextSweep() {
        SweepRows x = three();
        x.begin(0);
        x.read(0);
        x.step(1);
        Due.is("14 a spared one is a candidate of the next sweep", 3, x.begin(0));
        Due.is("14 and goes then", 3, x.step(9));
    }

    // "false if there is none that isn't OVER"
    private static void cutWithoutASweep() {
        SweepRows x = three();
        Due.no("15 cut(true)", x.cut(true));
        Due.no("15 cut(false)", x.cut(false));
        x.begin(0);
        Due.is("15 a refused cut is none", 1, x.step(1));
    }

    private static void cutOfASweepThatIsOver() {
        SweepRows x = three();
        x.begin(60);
        x.step(1);
        Due.no("15 cut(true)", x.cut(true));
        Due.no("15 cut(false)", x.cut(false));
        Due.sweep("15 over still", x, 0, 0, 0, 1);
    }

    // "or it is so already"
    private static void cutAlready() {
        SweepRows x = three();
        x.begin(0);
        Due.no("15 it goes on already", x.cut(false));
        Due.yes("15 cut", x.cut(true));
        Due.no("15 cut already", x.cut(true));
        Due.is("15 cut still", -1, x.step(1));
        Due.yes("15 goes on", x.cut(false));
        Due.no("15 goes on already", x.cut(false));
        Due.is("15 goes on still", 1, x.step(1));
        Due.yes("15 cut once more", x.cut(true));
    }

    private static void cutIsNoStep() {
        SweepRows x = three();
        x.begin(60);
        x.cut(true);
        Due.sweep("15 not over by a cut", x, 0, 0, 0, 0);
        Due.order("15 the order stays", x, 0, 1, 2);
        x.cut(false);
        Due.sweep("15 nor by going on", x, 0, 0, 0, 0);
        Due.is("15 by a step", 0, x.step(1));
        Due.is("15 over", 1, x.sweep(3));
    }

    // "NONE if there was none"
    private static void sweepIfThereWasNone() {
        SweepRows x = three();
        x.dry(0);
        x.begin(-1);
        x.step(1);
        x.cut(true);
        for (int what : new int[] {MIN, -1, 0, 1, 2, 3, 4, MAX}) {
            Due.is("16 sweep(" + what + ")", -1, x.sweep(what));
        }
    }

    // "or for another what"
    private static void sweepAnotherWhat() {
        SweepRows x = three();
        x.begin(0);
        x.step(9);
        for (int what : new int[] {MIN, -2, -1, 4, 5, MAX}) {
            Due.is("16 sweep(" + what + ")", -1, x.sweep(what));
        }
    }

    // "0 how many of its ORDER have been taken, 1 how many were SPARED, 2 DROPPED, 3 whether it is OVER (1, 0)"
    private static void sweepAtTheFirstAndTheLastStep() {
        SweepRows x = three();
        x.begin(0);
        x.read(1);
        Due.sweep("16 before the first", x, 0, 0, 0, 0);
        x.step(1);
        Due.sweep("16 after the first", x, 1, 0, 1, 0);
        x.step(1);
        Due.sweep("16 after the second", x, 2, 1, 1, 0);
        x.step(1);
        Due.sweep("16 after the last", x, 3, 1, 2, 0);
        x.step(1);
        Due.sweep("16 over", x, 3, 1, 2, 1);
        x.step(1);
        Due.sweep("16 a refused step", x, 3, 1, 2, 1);
        x.begin(0);
        Due.sweep("16 the latest", x, 0, 0, 0, 0);
    }

    // "NONE if there is none such"
    private static void orderIfThereWasNone() {
        SweepRows x = three();
        x.dry(0);
        for (int i : new int[] {MIN, -1, 0, 1, 2, 3, 39, 40, MAX}) {
            Due.is("17 order(" + i + ")", -1, x.order(i));
        }
    }

    private static void orderBeyondItsEnds() {
        SweepRows x = three();
        x.begin(0);
        for (int i : new int[] {MIN, -3, -1, 3, 4, 39, 40, 41, MAX}) {
            Due.is("17 order(" + i + ")", -1, x.order(i));
        }
        Due.is("17 the first", 0, x.order(0));
        Due.is("17 the last", 2, x.order(2));
        x.pin(0, false, 0);
        x.begin(0);
        Due.is("17 the last of a shorter one", 2, x.order(1));
        Due.is("17 none behind it", -1, x.order(2));
        x.step(9);
        Due.is("17 the first of one that is over", 1, x.order(0));
        Due.is("17 none behind one that is over", -1, x.order(2));
    }

    private static void orderOfForty() {
        SweepRows x = new SweepRows(1000);
        for (int i = 0; i < 40; i++) {
            x.blob(1 + i, 0);
        }
        x.tick(1);
        x.begin(0);
        for (int i = 0; i < 40; i++) {
            Due.is("17 order(" + i + ")", 39 - i, x.order(i));
        }
        Due.is("17 order(40)", -1, x.order(40));
        Due.is("17 order(-1)", -1, x.order(-1));
    }

    // "of equal ones the one that was READ less lately, then the lesser number"
    private static void orderByEqualProducts() {
        SweepRows x = new SweepRows(1000);
        x.blob(12, 0);
        x.blob(6, 0);
        x.blob(3, 0);
        x.blob(6, 0);
        x.tick(2);
        x.read(1);
        x.read(3);
        x.tick(1);
        x.read(0);
        x.tick(1);
        // Size times age: 12*1, 6*2, 3*4, 6*2.
        x.begin(0);
        Due.order("17 equal products", x, 2, 1, 3, 0);
        SweepRows z = new SweepRows(1000);
        z.blob(3, 0);
        z.blob(6, 0);
        z.blob(12, 0);
        z.tick(2);
        z.read(1);
        z.tick(1);
        z.read(2);
        z.tick(1);
        // Size times age: 3*4, 6*2, 12*1.
        z.begin(0);
        Due.order("17 equal products, READ by rising numbers", z, 0, 1, 2);
        SweepRows y = new SweepRows(1000);
        y.blob(12, 0);
        y.blob(13, 0);
        y.tick(1);
        y.begin(0);
        Due.order("17 a product greater by one", y, 1, 0);
    }

    private static void orderOfAgeZero() {
        SweepRows x = new SweepRows(1000);
        x.blob(1, 0);
        x.blob(900, 0);
        x.blob(5, 0);
        x.begin(0);
        Due.order("17 all of age 0, by numbers", x, 0, 1, 2);
        x.tick(1);
        x.read(1);
        x.begin(0);
        Due.order("17 the greatest of age 0 goes last", x, 2, 0, 1);
    }

    private static void orderOfTheGreatestProducts() {
        SweepRows x = new SweepRows(1000000000);
        x.blob(999999, 0);
        x.blob(1000000, 0);
        x.blob(1, 0);
        x.blob(5, 0);
        for (int i = 0; i < 500; i++) {
            x.tick(1000000);
        }
        x.begin(0);
        Due.order("17 beyond every int", x, 1, 0, 3, 2);
    }

    // "NONE if it is below 0"
    private static void dryWithAWishBelowZero() {
        SweepRows x = three();
        Due.is("18 wish -1", -1, x.dry(-1));
        Due.is("18 wish far below", -1, x.dry(MIN));
        Due.is("18 wish -1 of nothing", -1, new SweepRows(0).dry(-1));
        Due.is("18 wish 0", 3, x.dry(0));
    }

    // "How many BLOBS a SWEEP with a WISH would DROP if it were done now at once"
    private static void dryAroundUsed() {
        SweepRows x = three();
        int[] wishes = {MAX, 61, 60, 59, 31, 30, 29, 11, 10, 9, 1, 0};
        int[] want = {0, 0, 0, 1, 1, 1, 2, 2, 2, 3, 3, 3};
        for (int i = 0; i < wishes.length; i++) {
            Due.is("18 dry(" + wishes[i] + ")", want[i], x.dry(wishes[i]));
        }
    }

    private static void dryOfNothing() {
        SweepRows x = three();
        Due.is("18 no blobs", 0, new SweepRows(100).dry(0));
        for (int blob = 0; blob < 3; blob++) {
            x.pin(7, false, blob);
        }
        Due.is("18 all are pinned", 0, x.dry(0));
        x.free(7);
        x.begin(0);
        x.step(9);
        Due.is("18 all are dropped", 0, x.dry(0));
    }

    private static void dryOfForty() {
        SweepRows x = ones(40);
        Due.is("18 all", 40, x.dry(0));
        Due.is("18 all but one", 39, x.dry(1));
        Due.is("18 one", 1, x.dry(39));
        Due.is("18 none", 0, x.dry(40));
        x.begin(0);
        x.read(0);
        x.cut(true);
        Due.is("18 also in a cut, and with what that sweep would spare", 40, x.dry(0));
    }

    // "(Nothing changes.)"
    private static void dryChangesNothing() {
        SweepRows x = three();
        x.begin(30);
        x.read(1);
        x.pin(0, false, 2);
        x.tick(1);
        x.blob(7, 0);
        Due.is("18 dry", 3, x.dry(0));
        Due.order("18 the order", x, 0, 1, 2);
        Due.sweep("18 the sweep", x, 0, 0, 0, 0);
        Due.is("18 used", 67, x.used(-1));
        Due.is("18 READ", 1, x.about(1, 2));
        Due.is("18 the clock", 2, x.tick(0));
        Due.is("18 the sweep's own wish and reads", 1, x.step(9));
        Due.sweep("18 the sweep", x, 3, 2, 1, 1);
        Due.is("18 the pins", 1, x.free(0));
    }
}
