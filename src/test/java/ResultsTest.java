/** Promises 3, 4, 6 and 22: result, uses, build, whole. */
public final class ResultsTest {
    private static final int MIN = Integer.MIN_VALUE;
    private static final int MAX = Integer.MAX_VALUE;

    public static void main(String[] args) {
        promise3Result();
        promise4Uses();
        promise4AtMostEight();
        promise4DroppedBlobs();
        promise4UsesIsNoRead();
        promise6Build();
        promise6BuildIsARead();
        promise22Whole();
        Due.end();
    }

    private static void promise3Result() {
        SweepRows x = new SweepRows(0);
        for (int i = 0; i < 16; i++) {
            Due.is("3 number", i, x.result());
        }
        Due.is("3 the 17th", -1, x.result());
        Due.is("3 and again", -1, x.result());
        Due.yes("3 it uses nothing", x.whole(15));
    }

    private static void promise4Uses() {
        SweepRows x = new SweepRows(100);
        x.blob(1, 0);
        Due.no("4 no result yet", x.uses(0, 0));
        x.result();
        x.result();
        Due.no("4 no such result", x.uses(2, 0));
        Due.no("4 result below", x.uses(-1, 0));
        Due.no("4 result far", x.uses(MAX, 0));
        Due.no("4 result far below", x.uses(MIN, 0));
        Due.no("4 no such blob", x.uses(0, 1));
        Due.no("4 blob below", x.uses(0, -1));
        Due.no("4 blob far", x.uses(0, MAX));
        Due.no("4 blob far below", x.uses(0, MIN));
        Due.yes("4 uses", x.uses(0, 0));
        Due.no("4 it does already", x.uses(0, 0));
        Due.yes("4 another result may", x.uses(1, 0));
    }

    private static void promise4AtMostEight() {
        SweepRows x = new SweepRows(100);
        x.result();
        x.result();
        for (int i = 0; i < 9; i++) {
            x.blob(1, 0);
        }
        for (int i = 0; i < 8; i++) {
            Due.yes("4 up to eight", x.uses(0, i));
        }
        Due.no("4 the ninth", x.uses(0, 8));
        Due.yes("4 for another result", x.uses(1, 8));
        x.begin(8);
        x.step(1);
        Due.is("4 one is dropped", 0, x.about(0, 0));
        Due.no("4 dropped ones count among eight", x.uses(0, 8));
    }

    private static void promise4DroppedBlobs() {
        SweepRows x = new SweepRows(100);
        x.result();
        x.result();
        x.blob(1, 0);
        x.uses(0, 0);
        x.begin(0);
        x.step(1);
        Due.no("4 dropped, for another result", x.uses(1, 0));
        Due.yes("4 that one still uses nothing", x.whole(1));
        Due.no("4 dropped, for its own", x.uses(0, 0));
    }

    private static void promise4UsesIsNoRead() {
        SweepRows x = new SweepRows(100);
        x.result();
        x.blob(1, 0);
        x.tick(3);
        x.begin(0);
        x.uses(0, 0);
        Due.is("4 READ stays", 0, x.about(0, 2));
        Due.is("4 nor does it spare the blob", 1, x.step(1));
    }

    private static void promise6Build() {
        SweepRows x = new SweepRows(100);
        Due.is("6 none such", -1, x.build(0));
        x.result();
        Due.is("6 an empty one", 1, x.build(0));
        Due.is("6 below", -1, x.build(-1));
        Due.is("6 beyond", -1, x.build(1));
        Due.is("6 far", -1, x.build(MAX));
        Due.is("6 far below", -1, x.build(MIN));
        x.blob(5, 0);
        x.blob(6, 0);
        x.blob(7, 0);
        x.uses(0, 0);
        x.uses(0, 2);
        x.tick(9);
        Due.is("6 whole", 1, x.build(0));
        Due.is("6 read 0", 9, x.about(0, 2));
        Due.is("6 not read 1", 0, x.about(1, 2));
        Due.is("6 read 2", 9, x.about(2, 2));
        x.tick(1);
        x.pin(0, false, 0);
        x.pin(0, false, 1);
        x.begin(0);
        x.step(1);
        Due.is("6 not whole", 0, x.build(0));
        Due.is("6 nothing is read", 9, x.about(0, 2));
    }

    private static void promise6BuildIsARead() {
        SweepRows x = new SweepRows(100);
        x.result();
        x.blob(5, 0);
        x.blob(6, 0);
        x.uses(0, 1);
        x.begin(0);
        x.build(0);
        Due.is("6 a blob that was built from is spared", 1, x.step(9));
        Due.is("6 it is there", 1, x.about(1, 0));
        Due.is("6 the other one isn't", 0, x.about(0, 0));
        Due.sweep("6", x, 2, 1, 1, 1);
    }

    private static void promise22Whole() {
        SweepRows x = new SweepRows(100);
        Due.no("22 none such", x.whole(0));
        x.result();
        x.result();
        Due.yes("22 an empty one", x.whole(0));
        Due.no("22 below", x.whole(-1));
        Due.no("22 beyond", x.whole(2));
        Due.no("22 far", x.whole(MAX));
        Due.no("22 far below", x.whole(MIN));
        x.blob(5, 0);
        x.blob(6, 0);
        x.uses(0, 0);
        x.uses(0, 1);
        x.uses(1, 1);
        Due.yes("22 all there", x.whole(0));
        x.begin(6);
        x.step(1);
        Due.no("22 one of two dropped", x.whole(0));
        Due.yes("22 that uses the other", x.whole(1));
    }
}
