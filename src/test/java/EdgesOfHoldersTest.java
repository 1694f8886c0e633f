/** Edges, a test for each sentence that names one: promises 7, 8, 9 and their terms. */
public final class EdgesOfHoldersTest {
    private static final int MIN = Integer.MIN_VALUE;
    private static final int MAX = Integer.MAX_VALUE;
    private static final int[] NO_HOLDERS = {MIN, -8, -1, 8, 9, 32, 64, MAX};

    public static void main(String[] args) {
        eightHolders();
        pinByNoneSuch();
        pinOfNoSuchBlob();
        pinOfNoSuchResult();
        pinOfTheLastOnes();
        pinOfADroppedBlob();
        pinOfAResultThatIsNotWhole();
        pinOfAnEmptyResult();
        pinAlready();
        pinAlreadyByAnother();
        pinsOfAResultCoverWhatItUsesLater();
        pinAroundTheEndOfTheLease();
        freeByNoneSuch();
        freeOfNothing();
        freeOfTheMost();
        freeCountsNoRefusedPins();
        freeOfOneHolderAlone();
        freeAfterTheEndOfTheLease();
        freeMakesTheLeaseEndNever();
        leaseEndsNeverAtFirst();
        leaseByNoneSuch();
        leasesWithinTheRange();
        leasesBeyondTheRange();
        leaseOfZero();
        leaseIsCountedFromNow();
        leaseAnew();
        leaseAfterTheEnd();
        pinsAtTheEndOfTheLease();
        pinsBeyondTheEndOfTheLease();
        Due.end();
    }

    // "HOLDERS 0 .. 7 PIN BLOBS and RESULTS"
    private static void eightHolders() {
        SweepRows x = Stores.with(8, 8);
        for (int holder = 0; holder < 8; holder++) {
            Due.yes("7 blob by holder " + holder, x.pin(holder, false, holder));
            Due.yes("7 result by holder " + holder, x.pin(holder, true, holder));
        }
        for (int holder = 0; holder < 8; holder++) {
            Due.is("7 pinned by " + holder, 1, x.about(holder, 1));
            Due.is("7 pins of " + holder, 2, x.free(holder));
            Due.is("7 free of " + holder, 0, x.about(holder, 1));
        }
    }

    // "false if there are none such"
    private static void pinByNoneSuch() {
        SweepRows x = Stores.with(1, 1);
        x.uses(0, 0);
        for (int holder : NO_HOLDERS) {
            Due.no("7 pin(" + holder + ", false, 0)", x.pin(holder, false, 0));
            Due.no("7 pin(" + holder + ", true, 0)", x.pin(holder, true, 0));
        }
        Due.is("7 it isn't pinned by that", 0, x.about(0, 1));
    }

    private static void pinOfNoSuchBlob() {
        SweepRows none = Stores.with(1, 0);
        Due.no("7 before there are any", none.pin(0, false, 0));
        SweepRows x = Stores.with(16, 1);
        for (int which : new int[] {MIN, -64, -1, 1, 15, 39, 40, 63, 64, 128, MAX}) {
            Due.no("7 pin(0, false, " + which + ")", x.pin(0, false, which));
        }
        Due.is("7 nothing was pinned", 0, x.free(0));
    }

    private static void pinOfNoSuchResult() {
        SweepRows none = Stores.with(0, 1);
        Due.no("7 before there are any", none.pin(0, true, 0));
        SweepRows x = Stores.with(1, 40);
        for (int which : new int[] {MIN, -32, -1, 1, 15, 16, 31, 32, 39, 64, MAX}) {
            Due.no("7 pin(0, true, " + which + ")", x.pin(0, true, which));
        }
        Due.is("7 nothing was pinned", 0, x.free(0));
    }

    private static void pinOfTheLastOnes() {
        SweepRows x = Stores.with(16, 40);
        Due.yes("7 the last blob", x.pin(7, false, 39));
        Due.no("7 beyond the last blob", x.pin(7, false, 40));
        Due.yes("7 the last result", x.pin(7, true, 15));
        Due.no("7 beyond the last result", x.pin(7, true, 16));
        for (int blob = 0; blob < 40; blob++) {
            Due.is("7 pinned " + blob, blob == 39 ? 1 : 0, x.about(blob, 1));
        }
    }

    // "PINS a BLOB (that is there)"
    private static void pinOfADroppedBlob() {
        SweepRows x = Stores.with(0, 1);
        x.begin(0);
        x.step(1);
        Due.no("7 a dropped one", x.pin(0, false, 0));
        Due.is("7 it isn't pinned", 0, x.about(0, 1));
        Due.is("7 nothing was pinned", 0, x.free(0));
    }

    // "or a RESULT (that is WHOLE)"
    private static void pinOfAResultThatIsNotWhole() {
        SweepRows x = Stores.with(1, 2);
        x.uses(0, 0);
        x.uses(0, 1);
        x.begin(0);
        x.read(1);
        x.step(9);
        Due.no("7 one of two is dropped", x.pin(0, true, 0));
        Due.is("7 the other isn't pinned by that", 0, x.about(1, 1));
        Due.is("7 nothing was pinned", 0, x.free(0));
    }

    private static void pinOfAnEmptyResult() {
        SweepRows x = Stores.with(1, 0);
        Due.yes("7 a result of nothing", x.pin(0, true, 0));
        Due.no("7 already", x.pin(0, true, 0));
        Due.is("7 one pin", 1, x.free(0));
    }

    // "it has it PINNED already"
    private static void pinAlready() {
        SweepRows x = Stores.with(2, 2);
        Due.yes("7 the blob", x.pin(0, false, 1));
        Due.no("7 the blob already", x.pin(0, false, 1));
        Due.yes("7 the result of the same number", x.pin(0, true, 1));
        Due.no("7 the result already", x.pin(0, true, 1));
        Due.is("7 two pins", 2, x.free(0));
        Due.yes("7 the blob after free", x.pin(0, false, 1));
        Due.yes("7 the result after free", x.pin(0, true, 1));
    }

    private static void pinAlreadyByAnother() {
        SweepRows x = Stores.with(1, 1);
        for (int holder = 0; holder < 8; holder++) {
            Due.yes("7 blob 0 by " + holder, x.pin(holder, false, 0));
            Due.yes("7 result 0 by " + holder, x.pin(holder, true, 0));
        }
        for (int holder = 0; holder < 8; holder++) {
            Due.is("7 pinned until the last frees it", 1, x.about(0, 1));
            x.free(holder);
        }
        Due.is("7 all are free", 0, x.about(0, 1));
    }

    // "(all of whose BLOBS are PINNED by that, also such as it USES later)"
    private static void pinsOfAResultCoverWhatItUsesLater() {
        SweepRows x = Stores.with(1, 9);
        x.pin(0, true, 0);
        for (int blob = 0; blob < 8; blob++) {
            Due.is("7 not yet " + blob, 0, x.about(blob, 1));
            x.uses(0, blob);
            Due.is("7 used later " + blob, 1, x.about(blob, 1));
        }
        x.uses(0, 8);
        Due.is("7 the ninth isn't used", 0, x.about(8, 1));
        Due.is("7 one pin all the same", 1, x.free(0));
        Due.is("7 all go at once", 9, x.begin(0));
    }

    // "or its LEASE has ended"
    private static void pinAroundTheEndOfTheLease() {
        SweepRows x = Stores.with(1, 3);
        x.tick(5);
        x.lease(0, 2);
        Due.yes("7 two before the end", x.pin(0, false, 0));
        x.tick(1);
        Due.yes("7 one before the end", x.pin(0, false, 1));
        x.tick(1);
        Due.no("7 a blob at the end", x.pin(0, false, 2));
        Due.no("7 a result at the end", x.pin(0, true, 0));
        Due.yes("7 another holder", x.pin(1, false, 2));
        x.tick(1);
        Due.no("7 a blob beyond the end", x.pin(0, false, 2));
        Due.no("7 a result beyond the end", x.pin(0, true, 0));
        Due.is("7 nothing was pinned", 0, x.free(0));
    }

    // "NONE if there is none such"
    private static void freeByNoneSuch() {
        SweepRows x = Stores.with(0, 8);
        for (int holder = 0; holder < 8; holder++) {
            x.pin(holder, false, holder);
        }
        for (int holder : NO_HOLDERS) {
            Due.is("8 free(" + holder + ")", -1, x.free(holder));
        }
        Due.is("8 all are pinned still", 0, x.begin(0));
    }

    // "how many there were"
    private static void freeOfNothing() {
        SweepRows x = Stores.with(0, 1);
        Due.is("8 none yet", 0, x.free(0));
        x.pin(0, false, 0);
        Due.is("8 one", 1, x.free(0));
        Due.is("8 none any more", 0, x.free(0));
    }

    private static void freeOfTheMost() {
        SweepRows x = Stores.with(16, 40);
        for (int which = 0; which < 40; which++) {
            Due.yes("8 blob " + which, x.pin(7, false, which));
        }
        for (int which = 0; which < 16; which++) {
            Due.yes("8 result " + which, x.pin(7, true, which));
        }
        Due.is("8 no candidates", 0, x.begin(0));
        Due.is("8 all blobs and all results", 56, x.free(7));
        Due.is("8 all are candidates", 40, x.begin(0));
    }

    private static void freeCountsNoRefusedPins() {
        SweepRows x = Stores.with(1, 1);
        x.pin(3, false, 0);
        x.pin(3, false, 0);
        x.pin(3, false, 1);
        x.pin(3, true, 0);
        x.pin(3, true, 0);
        x.pin(3, true, 1);
        Due.is("8 two pins", 2, x.free(3));
    }

    private static void freeOfOneHolderAlone() {
        SweepRows x = Stores.with(0, 3);
        x.pin(0, false, 0);
        x.pin(1, false, 1);
        x.pin(2, false, 2);
        Due.is("8 of holder 1", 1, x.free(1));
        Due.is("8 holder 0 has its pin", 1, x.about(0, 1));
        Due.is("8 holder 1 has none", 0, x.about(1, 1));
        Due.is("8 holder 2 has its pin", 1, x.about(2, 1));
    }

    private static void freeAfterTheEndOfTheLease() {
        SweepRows x = Stores.with(1, 1);
        x.pin(0, false, 0);
        x.pin(0, true, 0);
        x.lease(0, 1);
        x.tick(1);
        Due.is("8 they have pinned nothing then", 0, x.free(0));
        Due.yes("8 and may pin again", x.pin(0, false, 0));
        Due.is("8 one pin", 1, x.free(0));
    }

    // "and its LEASE ends NEVER"
    private static void freeMakesTheLeaseEndNever() {
        SweepRows x = Stores.with(0, 1);
        x.lease(0, 1);
        x.lease(1, 1);
        x.free(0);
        x.pin(0, false, 0);
        x.tick(1);
        Due.is("8 at the former end", 1, x.about(0, 1));
        x.tick(1000000);
        Due.is("8 far beyond it", 1, x.about(0, 1));
        Due.no("8 the other's lease is as it was", x.pin(1, false, 0));
    }

    // "(NEVER at first)"
    private static void leaseEndsNeverAtFirst() {
        SweepRows x = Stores.with(0, 1);
        x.pin(0, false, 0);
        for (int i = 0; i < 400; i++) {
            x.tick(1000000);
        }
        Due.is("9 pinned still", 1, x.about(0, 1));
        for (int holder = 1; holder < 8; holder++) {
            Due.yes("9 may pin still: " + holder, x.pin(holder, false, 0));
        }
    }

    // "false if there is none such"
    private static void leaseByNoneSuch() {
        SweepRows x = Stores.with(0, 8);
        for (int holder = 0; holder < 8; holder++) {
            x.pin(holder, false, holder);
        }
        for (int holder : NO_HOLDERS) {
            Due.no("9 lease(" + holder + ", 0)", x.lease(holder, 0));
            Due.no("9 lease(" + holder + ", 1)", x.lease(holder, 1));
        }
        x.tick(2);
        Due.is("9 no lease has ended", 0, x.begin(0));
        for (int holder = 0; holder < 8; holder++) {
            Due.yes("9 lease(" + holder + ", 1)", x.lease(holder, 1));
        }
        x.tick(1);
        Due.is("9 all have ended", 8, x.begin(0));
    }

    // "so many ticks from now (0 .. 1000000)"
    private static void leasesWithinTheRange() {
        for (int ticks : new int[] {1, 2, 999999, 1000000}) {
            SweepRows x = Stores.with(0, 1);
            x.tick(1000000);
            x.pin(7, false, 0);
            Due.yes("9 lease of " + ticks, x.lease(7, ticks));
            x.tick(ticks - 1);
            Due.is("9 one before its end", 1, x.about(0, 1));
            x.tick(1);
            Due.is("9 at its end", 0, x.about(0, 1));
        }
    }

    // "or it isn't so"
    private static void leasesBeyondTheRange() {
        SweepRows x = Stores.with(0, 1);
        x.pin(0, false, 0);
        Due.yes("9 lease of 5", x.lease(0, 5));
        for (int ticks : new int[] {MIN, -1000000, -1, 1000001, 1000000000, MAX}) {
            Due.no("9 lease of " + ticks, x.lease(0, ticks));
        }
        x.tick(4);
        Due.is("9 the end is as it was: one before it", 1, x.about(0, 1));
        x.tick(1);
        Due.is("9 the end is as it was: at it", 0, x.about(0, 1));
        Due.no("9 refused after the end", x.lease(0, -1));
        Due.no("9 it has ended still", x.pin(0, false, 0));
    }

    private static void leaseOfZero() {
        SweepRows x = Stores.with(1, 2);
        x.uses(0, 1);
        x.tick(3);
        x.pin(0, false, 0);
        x.pin(0, true, 0);
        Due.yes("9 lease of 0", x.lease(0, 0));
        Due.is("9 its blob is free at once", 0, x.about(0, 1));
        Due.is("9 its result is free at once", 0, x.about(1, 1));
        Due.no("9 no pin at the end", x.pin(0, false, 0));
        Due.is("9 both are candidates", 2, x.begin(0));
        Due.is("9 there were none", 0, x.free(0));
    }

    private static void leaseIsCountedFromNow() {
        SweepRows x = Stores.with(0, 1);
        x.tick(1000000);
        x.lease(0, 3);
        Due.yes("9 it has not ended", x.pin(0, false, 0));
        x.tick(2);
        Due.is("9 one before its end", 1, x.about(0, 1));
        x.tick(1);
        Due.is("9 at its end", 0, x.about(0, 1));
    }

    private static void leaseAnew() {
        SweepRows x = Stores.with(0, 1);
        x.pin(0, false, 0);
        x.lease(0, 2);
        x.tick(1);
        Due.yes("9 the same once more", x.lease(0, 2));
        x.tick(1);
        Due.is("9 the former end is none", 1, x.about(0, 1));
        Due.yes("9 a longer one", x.lease(0, 10));
        Due.yes("9 a shorter one", x.lease(0, 1));
        x.tick(1);
        Due.is("9 the latest counts", 0, x.about(0, 1));
    }

    // "PIN .. until .. the CLOCK is at the end of their LEASE"
    private static void leaseAfterTheEnd() {
        SweepRows x = Stores.with(0, 2);
        x.pin(0, false, 0);
        x.lease(0, 1);
        x.tick(1);
        Due.yes("9 a lease after the end", x.lease(0, 1));
        Due.is("9 brings no pin back", 0, x.about(0, 1));
        Due.yes("9 but lets it pin", x.pin(0, false, 1));
        Due.is("9 one pin", 1, x.free(0));
    }

    // "or the CLOCK is at the end of their LEASE or beyond ..: they have PINNED nothing then"
    private static void pinsAtTheEndOfTheLease() {
        SweepRows x = Stores.with(1, 3);
        x.uses(0, 1);
        x.pin(0, false, 0);
        x.pin(0, true, 0);
        x.pin(1, false, 2);
        x.lease(0, 10);
        x.tick(9);
        Due.is("9 one before the end", 0, x.begin(0));
        x.tick(1);
        Due.is("9 at the end", 2, x.begin(0));
        Due.is("9 the other's is pinned still", 1, x.about(2, 1));
        x.uses(0, 2);
        x.free(1);
        Due.is("9 what its result uses later isn't", 0, x.about(2, 1));
    }

    private static void pinsBeyondTheEndOfTheLease() {
        SweepRows x = Stores.with(0, 1);
        x.pin(0, false, 0);
        x.lease(0, 10);
        x.tick(1000000);
        Due.is("9 far beyond the end in one tick", 0, x.about(0, 1));
        Due.is("9 a candidate", 1, x.dry(0));
    }
}
