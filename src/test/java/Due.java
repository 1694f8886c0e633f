/** Counts and prints the answers that are not the ones due. */
final class Due {
    private static int wrong = 0;

    private Due() {
    }

    static void is(String call, long want, long got) {
        if (got != want) {
            wrong++;
            System.out.println(call + ": answered " + got + ", due is " + want);
        }
    }

    static void yes(String call, boolean got) {
        is(call, 1, got ? 1 : 0);
    }

    static void no(String call, boolean got) {
        is(call, 0, got ? 1 : 0);
    }

    /** The blobs of the latest sweep's order, and nothing behind them. */
    static void order(String what, SweepRows x, int... want) {
        for (int i = 0; i < want.length; i++) {
            is(what + ": order(" + i + ")", want[i], x.order(i));
        }
        is(what + ": order(" + want.length + ")", SweepRows.NONE, x.order(want.length));
        is(what + ": order(-1)", SweepRows.NONE, x.order(-1));
    }

    /** Taken, spared, dropped and over of the latest sweep. */
    static void sweep(String what, SweepRows x, int... want) {
        for (int i = 0; i < want.length; i++) {
            is(what + ": sweep(" + i + ")", want[i], x.sweep(i));
        }
    }

    /** The shares of the projects, from project 0 on. */
    static void shares(String what, SweepRows x, int... want) {
        for (int project = 0; project < want.length; project++) {
            is(what + ": share(" + project + ")", want[project], x.share(project));
        }
    }

    static void end() {
        if (wrong != 0) {
            System.out.println(wrong + " answers are not as due");
            System.exit(1);
        }
    }
}
