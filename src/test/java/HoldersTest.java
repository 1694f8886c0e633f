/** Promises 7, 8 and 9: pin, free, lease. */
public final class HoldersTest {
    private static final int MIN = Integer.MIN_VALUE;
    private static final int MAX = Integer.MAX_VALUE;

    public static void main(String[] args) {
        promise7PinBlob();
        promise7PinResult();
        promise7TwoResults();
        promise7ResultUsesLater();
        promise7OwnPinOfAResultsBlob();
        promise7WrongInputs();
        promise7PinnedByTwo();
        promise8Free();
        promise8FreeEndsTheLease();
        promise9Lease();
        promise9LeaseOfZero();
        promise9NewLeaseBringsNothingBack();
        promise9LeaseAnew();
        promise9WrongInputs();
        Due.end();
    }

    private static void promise7PinBlob() {
        SweepRows x = Stores.with(0, 2);
        Due.yes("7 pin", x.pin(0, false, 0));
        Due.no("7 already", x.pin(0, false, 0));
        Due.is("7 pinned", 1, x.about(0, 1));
        Due.is("7 candidates", 1, x.begin(0));
        Due.order("7", x, 1);
        x.step(9);
        Due.is("7 it stays", 1, x.about(0, 0));
        Due.no("7 a dropped one", x.pin(0, false, 1));
        Due.is("7 a dropped one isn't pinned", 0, x.about(1, 1));
    }

    private static void promise7PinResult() {
        SweepRows x = Stores.with(0, 3);
        x.result();
        x.result();
        x.uses(0, 0);
        x.uses(0, 1);
        x.uses(1, 2);
        Due.yes("7 pin a result", x.pin(3, true, 0));
        Due.no("7 a result already", x.pin(3, true, 0));
        Due.is("7 its blob 0", 1, x.about(0, 1));
        Due.is("7 its blob 1", 1, x.about(1, 1));
        Due.is("7 not its blob 2", 0, x.about(2, 1));
        x.begin(0);
        x.step(9);
        Due.yes("7 it stays whole", x.whole(0));
        Due.no("7 one that isn't whole", x.pin(3, true, 1));
        Due.is("7 one pin", 1, x.free(3));
        Due.is("7 free again", 0, x.about(0, 1));
    }

    private static void promise7TwoResults() {
        SweepRows x = Stores.with(0, 2);
        for (int i = 0; i < 16; i++) {
            x.result();
        }
        x.uses(0, 0);
        x.uses(15, 1);
        Due.yes("7 the first result", x.pin(3, true, 0));
        Due.yes("7 the last result", x.pin(3, true, 15));
        Due.is("7 the first one's blob", 1, x.about(0, 1));
        Due.is("7 the last one's blob", 1, x.about(1, 1));
        Due.is("7 two results are two pins", 2, x.free(3));
    }

    private static void promise7ResultUsesLater() {
        SweepRows x = Stores.with(0, 2);
        x.result();
        Due.yes("7 pin an empty result", x.pin(3, true, 0));
        Due.is("7 not yet", 0, x.about(1, 1));
        x.begin(0);
        x.uses(0, 1);
        Due.is("7 used later", 1, x.about(1, 1));
        Due.is("7 pinned by uses since begin", 1, x.step(9));
        Due.sweep("7", x, 2, 1, 1, 1);
        Due.is("7 it is there", 1, x.about(1, 0));
    }

    private static void promise7OwnPinOfAResultsBlob() {
        SweepRows x = Stores.with(0, 1);
        x.result();
        x.uses(0, 0);
        Due.yes("7 the result", x.pin(0, true, 0));
        Due.yes("7 its blob by itself", x.pin(0, false, 0));
        Due.no("7 its blob already", x.pin(0, false, 0));
        Due.is("7 two pins", 2, x.free(0));
    }

    private static void promise7WrongInputs() {
        SweepRows x = Stores.with(0, 1);
        x.result();
        for (int holder : new int[] {-1, 8, MIN, MAX}) {
            Due.no("7 holder " + holder, x.pin(holder, false, 0));
            Due.no("7 holder " + holder + " for a result", x.pin(holder, true, 0));
        }
        for (int which : new int[] {-1, 1, 16, 32, 40, 64, MIN, MAX}) {
            Due.no("7 blob " + which, x.pin(0, false, which));
            Due.no("7 result " + which, x.pin(0, true, which));
        }
        Due.is("7 nothing was pinned", 0, x.free(0));
        Due.yes("7 holder 7", x.pin(7, false, 0));
        Due.yes("7 holder 7 for a result", x.pin(7, true, 0));
    }

    private static void promise7PinnedByTwo() {
        SweepRows x = Stores.with(0, 1);
        Due.yes("7 by 0", x.pin(0, false, 0));
        Due.yes("7 by 1", x.pin(1, false, 0));
        x.free(0);
        Due.is("7 still by 1", 1, x.about(0, 1));
        x.free(1);
        Due.is("7 by none", 0, x.about(0, 1));
    }

    private static void promise8Free() {
        SweepRows x = Stores.with(0, 3);
        x.result();
        x.uses(0, 2);
        x.pin(2, false, 0);
        x.pin(2, false, 1);
        x.pin(2, true, 0);
        x.pin(3, false, 0);
        Due.is("8 free", 3, x.free(2));
        Due.is("8 again", 0, x.free(2));
        Due.is("8 blob 0 by another", 1, x.about(0, 1));
        Due.is("8 blob 1", 0, x.about(1, 1));
        Due.is("8 blob 2", 0, x.about(2, 1));
        Due.yes("8 pin again", x.pin(2, false, 1));
        for (int holder : new int[] {-1, 8, MIN, MAX}) {
            Due.is("8 holder " + holder, -1, x.free(holder));
        }
    }

    private static void promise8FreeEndsTheLease() {
        SweepRows x = Stores.with(0, 1);
        x.lease(2, 5);
        x.free(2);
        x.pin(2, false, 0);
        x.tick(5);
        Due.is("8 the lease is NEVER", 1, x.about(0, 1));
        x.lease(2, 1);
        x.tick(1);
        Due.no("8 the lease has ended", x.pin(2, false, 0));
        Due.is("8 free after the end", 0, x.free(2));
        Due.yes("8 and pin again", x.pin(2, false, 0));
        Due.is("8 pinned", 1, x.about(0, 1));
    }

    private static void promise9Lease() {
        SweepRows x = Stores.with(0, 2);
        x.result();
        x.uses(0, 1);
        x.tick(100);
        x.pin(4, false, 0);
        x.pin(4, true, 0);
        Due.yes("9 lease", x.lease(4, 3));
        x.tick(2);
        Due.is("9 before the end", 1, x.about(0, 1));
        Due.is("9 no candidates", 0, x.begin(0));
        x.tick(1);
        Due.is("9 at the end", 0, x.about(0, 1));
        Due.is("9 its result at the end", 0, x.about(1, 1));
        Due.no("9 no pin then", x.pin(4, false, 0));
        Due.no("9 no result then", x.pin(4, true, 0));
        Due.yes("9 another may", x.pin(5, false, 0));
        Due.is("9 candidates", 1, x.begin(0));
        x.tick(5);
        Due.no("9 beyond the end", x.pin(4, false, 0));
        Due.is("9 there were none", 0, x.free(4));
    }

    private static void promise9LeaseOfZero() {
        SweepRows x = Stores.with(0, 1);
        x.pin(0, false, 0);
        Due.yes("9 lease of 0", x.lease(0, 0));
        Due.is("9 ends now", 0, x.about(0, 1));
        Due.no("9 no pin now", x.pin(0, false, 0));
        Due.is("9 there were none", 0, x.free(0));
    }

    private static void promise9NewLeaseBringsNothingBack() {
        SweepRows x = Stores.with(0, 1);
        x.pin(0, false, 0);
        x.lease(0, 2);
        x.tick(9);
        Due.yes("9 a new lease", x.lease(0, 2));
        Due.is("9 the pin is gone", 0, x.about(0, 1));
        Due.yes("9 pin again", x.pin(0, false, 0));
        x.lease(0, 0);
        x.lease(0, 2);
        Due.is("9 gone by a lease of 0", 0, x.about(0, 1));
    }

    private static void promise9LeaseAnew() {
        SweepRows x = Stores.with(0, 1);
        x.lease(0, 2);
        Due.yes("9 pin in a lease", x.pin(0, false, 0));
        x.tick(1);
        Due.yes("9 a longer one", x.lease(0, 1000000));
        x.tick(5);
        Due.is("9 still pinned", 1, x.about(0, 1));
        Due.yes("9 a shorter one", x.lease(0, 1));
        Due.is("9 still pinned then", 1, x.about(0, 1));
        x.tick(1);
        Due.is("9 ended", 0, x.about(0, 1));
    }

    private static void promise9WrongInputs() {
        SweepRows x = Stores.with(0, 1);
        x.pin(0, false, 0);
        for (int holder : new int[] {-1, 8, MIN, MAX}) {
            Due.no("9 holder " + holder, x.lease(holder, 1));
        }
        for (int ticks : new int[] {-1, 1000001, MIN, MAX}) {
            Due.no("9 ticks " + ticks, x.lease(0, ticks));
        }
        x.tick(1000000);
        x.tick(1000000);
        Due.is("9 nothing changed", 1, x.about(0, 1));
        Due.yes("9 holder 7", x.lease(7, 1000000));
        x.tick(999999);
        Due.yes("9 the longest, before its end", x.pin(7, false, 0));
        x.tick(1);
        Due.is("9 the longest, at its end", 0, x.free(7));
    }
}
