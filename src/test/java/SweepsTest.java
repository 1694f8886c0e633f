/** Promises 13 to 18: begin, step, cut, sweep, order, dry. */
public final class SweepsTest {
    private static final int MIN = Integer.MIN_VALUE;
    private static final int MAX = Integer.MAX_VALUE;

    public static void main(String[] args) {
        promise13Begin();
        promise13BeginEndsTheOneBefore();
        promise13WrongWishChangesNothing();
        promise14Step();
        promise14OverIsFoundByAStep();
        promise14AllFortyAtOnce();
        promise14SparesWhatWasRead();
        promise14SparesWhatIsPinned();
        promise14WrongInputs();
        promise15Cut();
        promise16Sweep();
        promise17Order();
        promise17GreatProducts();
        promise17OrderStays();
        promise18Dry();
        promise18NothingChanges();
        Due.end();
    }

    /** Blobs of sizes 4, 3, 2, 1, and a clock of 1: their order is their numbers. */
    private static SweepRows four() {
        SweepRows x = new SweepRows(100);
        for (int size = 4; size > 0; size--) {
            x.blob(size, 0);
        }
        x.tick(1);
        return x;
    }

    private static void promise13Begin() {
        SweepRows x = four();
        Due.is("13 begin", 4, x.begin(0));
        x.pin(0, false, 2);
        Due.is("13 without the pinned", 3, x.begin(0));
        Due.order("13", x, 0, 1, 3);
        x.step(1);
        Due.is("13 without the dropped", 2, x.begin(0));
        Due.order("13", x, 1, 3);
        Due.is("13 with a wish that is met", 2, x.begin(MAX));
        Due.sweep("13 not over before a step", x, 0, 0, 0, 0);
        Due.is("13 nothing there", 0, new SweepRows(5).begin(0));
    }

    private static void promise13BeginEndsTheOneBefore() {
        SweepRows x = four();
        x.begin(0);
        x.read(0);
        x.step(2);
        x.cut(true);
        Due.sweep("13 before", x, 2, 1, 1, 0);
        Due.is("13 anew", 3, x.begin(0));
        Due.sweep("13 anew", x, 0, 0, 0, 0);
        Due.is("13 it isn't cut, and reads before begin spare nothing", 3, x.step(9));
    }

    private static void promise13WrongWishChangesNothing() {
        SweepRows x = four();
        Due.is("13 wish -1", -1, x.begin(-1));
        Due.is("13 wish far below", -1, x.begin(MIN));
        Due.is("13 there was none", -1, x.sweep(0));
        x.begin(6);
        x.read(3);
        x.step(1);
        x.cut(true);
        Due.is("13 wish -1 in a sweep", -1, x.begin(-1));
        Due.sweep("13 the same", x, 1, 0, 1, 0);
        Due.order("13 the same", x, 0, 1, 2, 3);
        Due.is("13 still cut", -1, x.step(1));
    }

    private static void promise14Step() {
        SweepRows x = four();
        Due.is("14 no sweep", -1, x.step(1));
        x.begin(1);
        Due.is("14 none", 0, x.step(0));
        Due.sweep("14 none", x, 0, 0, 0, 0);
        Due.is("14 one", 1, x.step(1));
        Due.is("14 gone", 0, x.about(0, 0));
        Due.is("14 used", 6, x.used(-1));
        Due.is("14 two", 2, x.step(2));
        Due.sweep("14", x, 3, 0, 3, 0);
        Due.is("14 the wish is met", 0, x.step(1));
        Due.sweep("14 over", x, 3, 0, 3, 1);
        Due.is("14 none that isn't over", -1, x.step(1));
        Due.is("14 nor for 0", -1, x.step(0));
        Due.is("14 the last stays", 1, x.about(3, 0));
    }

    private static void promise14OverIsFoundByAStep() {
        SweepRows x = four();
        x.begin(0);
        Due.is("14 all", 4, x.step(4));
        Due.sweep("14 not over yet", x, 4, 0, 4, 0);
        Due.is("14 none is next", 0, x.step(MAX));
        Due.sweep("14 over now", x, 4, 0, 4, 1);
        SweepRows y = four();
        y.begin(10);
        Due.is("14 used isn't above the wish", 0, y.step(1));
        Due.sweep("14 over at once", y, 0, 0, 0, 1);
        SweepRows z = four();
        z.begin(9);
        z.blob(3, 0);
        Due.is("14 used as by the step", 1, z.step(1));
        Due.is("14 not met yet", 0, z.sweep(3));
        z.step(9);
        Due.sweep("14 new blobs are not in the order", z, 1, 0, 1, 1);
        SweepRows v = four();
        v.begin(0);
        v.blob(3, 0);
        Due.is("14 all of the order", 4, v.step(9));
        Due.is("14 the new one stays", 3, v.used(-1));
        Due.sweep("14 none is next, above the wish", v, 4, 0, 4, 1);
    }

    private static void promise14AllFortyAtOnce() {
        SweepRows x = new SweepRows(40);
        for (int i = 0; i < 40; i++) {
            x.blob(1, 0);
        }
        x.begin(0);
        x.read(39);
        Due.is("14 all forty, and the step that ends it", 39, x.step(MAX));
        Due.sweep("14 forty", x, 40, 1, 39, 1);
    }

    private static void promise14SparesWhatWasRead() {
        SweepRows x = four();
        x.read(0);
        x.tick(1);
        x.read(3);
        x.begin(0);
        Due.order("14", x, 1, 2, 0, 3);
        x.read(0);
        x.tick(1);
        x.read(2);
        Due.is("14 spared, read at the tick of begin or later", 2, x.step(9));
        Due.sweep("14", x, 4, 2, 2, 1);
        Due.is("14 a read at the tick of begin, but before it, spares not", 0, x.about(3, 0));
        Due.is("14 left", 6, x.used(-1));
        x.begin(0);
        Due.is("14 reads before begin", 2, x.step(9));
    }

    private static void promise14SparesWhatIsPinned() {
        SweepRows x = four();
        x.result();
        x.uses(0, 1);
        x.begin(0);
        x.pin(0, false, 0);
        x.pin(1, true, 0);
        x.pin(2, false, 2);
        x.lease(2, 1);
        x.tick(1);
        Due.is("14 pins spare, lapsed ones don't", 2, x.step(9));
        Due.sweep("14", x, 4, 2, 2, 1);
        Due.is("14 left", 7, x.used(-1));
        SweepRows y = four();
        y.begin(0);
        y.pin(0, false, 0);
        y.free(0);
        Due.is("14 freed before its step", 1, y.step(1));
        SweepRows v = four();
        v.begin(0);
        v.read(0);
        Due.yes("14 what was read can be pinned too", v.pin(0, false, 0));
        Due.is("14 read and pinned", 3, v.step(9));
        Due.sweep("14 spared once", v, 4, 1, 3, 1);
        SweepRows z = four();
        z.pin(0, false, 0);
        z.begin(0);
        z.free(0);
        z.step(9);
        Due.is("14 pinned at begin, so not in the order", 1, z.about(0, 0));
    }

    private static void promise14WrongInputs() {
        SweepRows x = four();
        x.begin(0);
        Due.is("14 n -1", -1, x.step(-1));
        Due.is("14 n far below", -1, x.step(MIN));
        Due.sweep("14 nothing changed", x, 0, 0, 0, 0);
        x.cut(true);
        Due.is("14 cut", -1, x.step(1));
        Due.is("14 cut, n 0", -1, x.step(0));
        Due.sweep("14 nothing changed", x, 0, 0, 0, 0);
    }

    private static void promise15Cut() {
        SweepRows x = four();
        Due.no("15 no sweep", x.cut(true));
        Due.no("15 no sweep to go on", x.cut(false));
        x.begin(0);
        Due.no("15 it isn't cut already", x.cut(false));
        Due.yes("15 cut", x.cut(true));
        Due.no("15 cut already", x.cut(true));
        x.read(0);
        Due.is("15 no steps", -1, x.step(1));
        Due.yes("15 goes on", x.cut(false));
        Due.no("15 goes on already", x.cut(false));
        Due.is("15 steps, and a read in the cut spares", 1, x.step(2));
        x.step(9);
        Due.is("15 over", 1, x.sweep(3));
        Due.no("15 cut when over", x.cut(true));
        Due.no("15 go on when over", x.cut(false));
    }

    private static void promise16Sweep() {
        SweepRows x = four();
        for (int what = -1; what < 5; what++) {
            Due.is("16 there was none", -1, x.sweep(what));
        }
        x.begin(3);
        x.read(1);
        x.step(3);
        Due.sweep("16", x, 3, 1, 2, 0);
        for (int what : new int[] {-1, 4, MIN, MAX}) {
            Due.is("16 what " + what, -1, x.sweep(what));
        }
        x.step(9);
        Due.sweep("16 over", x, 4, 1, 3, 1);
        x.begin(3);
        x.step(1);
        Due.sweep("16 of the latest", x, 0, 0, 0, 1);
    }

    private static void promise17Order() {
        SweepRows x = new SweepRows(1000);
        Due.order("17 no sweep", x);
        x.blob(2, 0);
        x.tick(2);
        x.blob(4, 0);
        x.blob(4, 0);
        x.tick(1);
        x.blob(12, 0);
        x.tick(1);
        // Size times age: 2*4, 4*2, 4*2, 12*1.
        x.begin(0);
        Due.order("17 products, then READ, then numbers", x, 3, 0, 1, 2);
        x.read(0);
        x.read(3);
        x.begin(0);
        Due.order("17 of age 0, by numbers", x, 1, 2, 0, 3);
        Due.is("17 far", -1, x.order(MAX));
        Due.is("17 far below", -1, x.order(MIN));
        Due.is("17 beyond forty", -1, x.order(40));
        SweepRows y = new SweepRows(1000);
        y.blob(3, 0);
        y.blob(6, 0);
        y.tick(5);
        y.read(1);
        y.tick(5);
        y.begin(0);
        Due.order("17 the lesser number was READ less lately", y, 0, 1);
        SweepRows z = new SweepRows(1000);
        z.blob(6, 0);
        z.blob(3, 0);
        z.tick(5);
        z.read(0);
        z.tick(5);
        z.begin(0);
        Due.order("17 the greater number was READ less lately", z, 1, 0);
    }

    private static void promise17GreatProducts() {
        SweepRows x = new SweepRows(1000000000);
        x.blob(1, 0);
        x.blob(1000000, 0);
        x.blob(999999, 0);
        for (int i = 0; i < 400; i++) {
            x.tick(1000000);
        }
        x.begin(0);
        Due.order("17 great products", x, 1, 2, 0);
        SweepRows y = new SweepRows(1000000000);
        y.blob(3000, 0);
        y.blob(1000, 0);
        y.tick(1000000);
        y.begin(0);
        Due.order("17 beyond 31 bits", y, 0, 1);
    }

    private static void promise17OrderStays() {
        SweepRows x = four();
        x.begin(0);
        x.read(0);
        x.pin(0, false, 1);
        x.tick(7);
        x.blob(50, 0);
        x.step(3);
        x.dry(0);
        Due.order("17 the order stays", x, 0, 1, 2, 3);
        x.step(9);
        Due.order("17 also when over", x, 0, 1, 2, 3);
        x.begin(0);
        Due.order("17 of the latest", x, 0, 4);
    }

    private static void promise18Dry() {
        SweepRows x = four();
        Due.is("18 all", 4, x.dry(0));
        Due.is("18 to 1", 3, x.dry(1));
        Due.is("18 to 2", 3, x.dry(2));
        Due.is("18 to 3", 2, x.dry(3));
        Due.is("18 to 6", 1, x.dry(6));
        Due.is("18 to 9", 1, x.dry(9));
        Due.is("18 to 10", 0, x.dry(10));
        Due.is("18 far", 0, x.dry(MAX));
        Due.is("18 below", -1, x.dry(-1));
        Due.is("18 far below", -1, x.dry(MIN));
        x.pin(0, false, 0);
        Due.is("18 the pinned stay, but are used", 3, x.dry(0));
        Due.is("18 to 7", 1, x.dry(7));
        x.begin(0);
        x.read(1);
        Due.is("18 read blobs are candidates", 3, x.dry(0));
        Due.is("18 as by now, the read one last", 2, x.dry(7));
    }

    private static void promise18NothingChanges() {
        SweepRows x = four();
        x.dry(0);
        Due.is("18 there was no sweep", -1, x.sweep(0));
        Due.order("18 nor an order", x);
        x.begin(3);
        x.read(1);
        x.step(1);
        x.cut(true);
        x.pin(0, false, 2);
        Due.is("18 dry in a sweep", 2, x.dry(0));
        Due.sweep("18 the same", x, 1, 0, 1, 0);
        Due.order("18 the same", x, 0, 1, 2, 3);
        Due.is("18 used", 6, x.used(-1));
        Due.is("18 still cut", -1, x.step(1));
        x.cut(false);
        Due.is("18 still spared", 1, x.step(9));
    }
}
