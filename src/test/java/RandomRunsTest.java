import java.util.Random;

/** Long runs of mixed calls, with wrong arguments among them, compared with the Model (all promises). */
public final class RandomRunsTest {
    private static final int[] ODD = {Integer.MIN_VALUE, -1000000001, -65, -2, -1, 6, 8, 16, 32, 40, 63, 64,
        100, 101, 1000000, 1000001, 1000000000, 1000000001, Integer.MAX_VALUE};
    private static final int[] ROOMS = {-1, 0, 1, 7, 100, 100, 1000, 1000, 100000, 1000000000,
        Integer.MAX_VALUE, Integer.MIN_VALUE};
    private static final int CALLS = 512;

    private final Random random;
    private final int run;
    private final SweepRows x;
    private final Model model;
    private final int room;
    private final int longTicks;

    private RandomRunsTest(int run) {
        this.run = run;
        random = new Random(run);
        room = ROOMS[random.nextInt(ROOMS.length)];
        longTicks = random.nextInt(4) == 0 ? 1000000 : 5;
        x = new SweepRows(room);
        model = new Model(room);
    }

    public static void main(String[] args) {
        for (int run = 0; run < 1500; run++) {
            RandomRunsTest test = new RandomRunsTest(run);
            for (int call = 0; call < CALLS; call++) {
                test.callBoth();
            }
            test.compareAll();
        }
        Due.end();
    }

    private int any(int bound) {
        return random.nextInt(40) == 0 ? ODD[random.nextInt(ODD.length)] : random.nextInt(bound);
    }

    private int anySize() {
        int most = Math.max(2, Math.min(1000000, room / 12));
        return any(random.nextInt(3) == 0 ? 4 : most) + (random.nextInt(50) == 0 ? 0 : 1);
    }

    private int anyWish() {
        return any(Math.max(2, model.used(-1) + 2));
    }

    private void callBoth() {
        int kind = random.nextInt(34);
        if (kind < 17) {
            callChange(kind);
        } else {
            callSweepOrAsk(kind);
        }
    }

    private void callChange(int kind) {
        int a = any(40);
        int b = any(6);
        boolean on = random.nextBoolean();
        switch (kind) {
            case 0, 1, 2 -> {
                int size = anySize();
                same("blob", model.blob(size, b), x.blob(size, b));
            }
            case 3 -> same("result", model.result(), x.result());
            case 4, 5 -> {
                int result = any(8);
                same("uses", model.uses(result, a), x.uses(result, a));
            }
            case 6, 7 -> same("read", model.read(a), x.read(a));
            case 8 -> same("build", model.build(b), x.build(b));
            case 9, 10 -> {
                int holder = any(8);
                int which = on ? b : a;
                same("pin", model.pin(holder, on, which), x.pin(holder, on, which));
            }
            case 11 -> {
                int holder = any(8);
                same("free", model.free(holder), x.free(holder));
            }
            case 12 -> {
                int holder = any(8);
                int ticks = any(6);
                same("lease", model.lease(holder, ticks), x.lease(holder, ticks));
            }
            case 13, 14 -> {
                int ticks = any(longTicks);
                same("tick", model.tick(ticks), x.tick(ticks));
            }
            case 15 -> {
                int w = any(random.nextBoolean() ? 3 : 101);
                same("weight", model.weight(b, w), x.weight(b, w));
            }
            default -> {
                model.fair(on);
                x.fair(on);
            }
        }
    }

    private void callSweepOrAsk(int kind) {
        int a = any(40);
        int wish = anyWish();
        boolean on = random.nextBoolean();
        switch (kind) {
            case 17, 18 -> same("begin", model.begin(wish), x.begin(wish));
            case 19, 20, 21 -> {
                int n = any(4);
                int bounded = Math.min(n, 1000);
                same("step", model.step(bounded), x.step(n));
            }
            case 22 -> same("cut", model.cut(on), x.cut(on));
            case 23, 24 -> {
                int what = any(5);
                same("sweep", model.sweep(what), x.sweep(what));
            }
            case 25, 26 -> same("order", model.order(a), x.order(a));
            case 27 -> same("dry", model.dry(wish), x.dry(wish));
            case 28, 29 -> {
                int what = any(4);
                same("about", model.about(a, what), x.about(a, what));
            }
            case 30 -> same("used", model.used(a), x.used(a));
            case 31, 32 -> same("share", model.share(a % 7), x.share(a % 7));
            default -> same("whole", model.whole(a), x.whole(a));
        }
    }

    private void compareAll() {
        for (int i = -2; i < 42; i++) {
            for (int what = -1; what < 5; what++) {
                same("about", model.about(i, what), x.about(i, what));
            }
            same("order", model.order(i), x.order(i));
            same("sweep", model.sweep(i), x.sweep(i));
            same("used", model.used(i), x.used(i));
            same("share", model.share(i), x.share(i));
            same("whole", model.whole(i), x.whole(i));
            same("dry", model.dry(i), x.dry(i));
        }
        for (int holder = 0; holder < 8; holder++) {
            same("free", model.free(holder), x.free(holder));
        }
    }

    private void same(String call, int want, int got) {
        Due.is("random run " + run + " " + call, want, got);
    }

    private void same(String call, boolean want, boolean got) {
        Due.is("random run " + run + " " + call, want ? 1 : 0, got ? 1 : 0);
    }
}
