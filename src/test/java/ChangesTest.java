import java.util.LinkedHashMap;
import java.util.Map;
import java.util.Set;
import java.util.TreeSet;
import java.util.function.ToIntFunction;

/**
 * What a call that is taken changes, and that it changes nothing else (promises 2 to 15): all that can be told of a
 * store, and of what it does next, is compared with and without that call.
 */
public final class ChangesTest {
    private static final Map<String, Integer> WITHOUT = told(x -> 0);

    public static void main(String[] args) {
        blobsAndResults();
        reads();
        pins();
        leases();
        ticks();
        weightsAndFair();
        sweeps();
        Due.end();
    }

    /**
     * Blobs 1 to 4 are there, 3 is pinned by holder 0 till clock 5, holder 1 has pinned result 2; the sweep has
     * dropped blob 0 and takes 1, 4 and 2 next; the clock is 3; project 1 alone is over.
     */
    private static SweepRows store() {
        SweepRows x = new SweepRows(100);
        x.blob(30, 0);
        x.blob(20, 1);
        x.blob(10, 1);
        x.blob(4, 2);
        x.blob(12, 0);
        for (int result = 0; result < 3; result++) {
            x.result();
        }
        x.uses(0, 1);
        x.uses(0, 2);
        x.uses(1, 0);
        x.tick(2);
        x.pin(0, false, 3);
        x.lease(0, 3);
        x.pin(1, true, 2);
        x.begin(5);
        x.step(1);
        x.tick(1);
        return x;
    }

    private static SweepRows after(ToIntFunction<SweepRows> call) {
        SweepRows x = store();
        call.applyAsInt(x);
        return x;
    }

    private static Map<String, Integer> told(ToIntFunction<SweepRows> call) {
        Map<String, Integer> all = new LinkedHashMap<>();
        askNow(after(call), all);
        askSteps(after(call), all);
        askAnew(after(call), all);
        askPins(after(call), all);
        askLeases(after(call), 1, all);
        askLeases(after(call), 2, all);
        askBuild(after(call), 0, all);
        askBuild(after(call), 2, all);
        askNumbers(after(call), all);
        all.put("then cut(true)", number(after(call).cut(true)));
        all.put("then cut(false)", number(after(call).cut(false)));
        return all;
    }

    private static int number(boolean yes) {
        return yes ? 1 : 0;
    }

    private static void askNow(SweepRows x, Map<String, Integer> all) {
        for (int blob = 0; blob < 6; blob++) {
            for (int what = 0; what < 3; what++) {
                all.put("about(" + blob + ", " + what + ")", x.about(blob, what));
            }
        }
        for (int project = -1; project < 6; project++) {
            all.put("used(" + project + ")", x.used(project));
            all.put("share(" + project + ")", x.share(project));
        }
        for (int i = 0; i < 6; i++) {
            all.put("whole(" + i + ")", number(x.whole(i)));
            all.put("sweep(" + i + ")", x.sweep(i));
            all.put("order(" + i + ")", x.order(i));
        }
        for (int wish : new int[] {0, 15, 30}) {
            all.put("dry(" + wish + ")", x.dry(wish));
        }
        all.put("clock", x.tick(0));
    }

    private static void askSteps(SweepRows x, Map<String, Integer> all) {
        for (int i = 1; i <= 4; i++) {
            all.put("step " + i, x.step(1));
        }
        for (int what = 0; what < 4; what++) {
            all.put("steps: sweep(" + what + ")", x.sweep(what));
        }
        all.put("steps: used", x.used(-1));
    }

    private static void askAnew(SweepRows x, Map<String, Integer> all) {
        all.put("anew", x.begin(0));
        for (int i = 0; i < 6; i++) {
            all.put("anew: order(" + i + ")", x.order(i));
        }
    }

    private static void askPins(SweepRows x, Map<String, Integer> all) {
        for (int holder = 0; holder < 8; holder++) {
            all.put("free(" + holder + ")", x.free(holder));
        }
    }

    private static void askLeases(SweepRows x, int ticks, Map<String, Integer> all) {
        x.tick(ticks);
        for (int holder = 0; holder < 8; holder++) {
            all.put("tick(" + ticks + "): " + holder + " pins", number(x.pin(holder, true, 2)));
        }
    }

    private static void askBuild(SweepRows x, int result, Map<String, Integer> all) {
        String built = "build(" + result + ")";
        all.put(built, x.build(result));
        for (int blob = 0; blob < 5; blob++) {
            all.put(built + ": READ " + blob, x.about(blob, 2));
        }
    }

    private static void askNumbers(SweepRows x, Map<String, Integer> all) {
        all.put("next blob", x.blob(1, 5));
        all.put("next result", x.result());
    }

    private static void due(String name, int answer, ToIntFunction<SweepRows> call, String... changes) {
        Due.is(name, answer, call.applyAsInt(store()));
        Map<String, Integer> with = told(call);
        Set<String> found = new TreeSet<>();
        for (String each : with.keySet()) {
            if (!with.get(each).equals(WITHOUT.get(each))) {
                found.add(each + " = " + with.get(each));
            }
        }
        Set<String> want = Set.of(changes);
        for (String each : want) {
            Due.yes(name + " makes " + each, found.contains(each));
        }
        for (String each : found) {
            Due.yes(name + " makes not " + each, want.contains(each));
        }
    }

    private static void blobsAndResults() {
        due("2 blob", 5, x -> x.blob(7, 3),
            "about(5, 0) = 1", "about(5, 1) = 0", "about(5, 2) = 3", "used(-1) = 53", "used(3) = 7",
            "dry(0) = 4", "dry(15) = 3", "dry(30) = 2", "steps: used = 11",
            "anew = 4", "anew: order(3) = 5", "next blob = 6");
        due("3 result", 3, x -> x.result(), "whole(3) = 1", "next result = 4");
        due("4 uses", 1, x -> number(x.uses(0, 4)), "build(0): READ 4 = 3");
        due("4 uses of a pinned result", 1, x -> number(x.uses(2, 2)),
            "about(2, 1) = 1", "dry(0) = 2", "step 3 = 0", "steps: sweep(1) = 1", "steps: sweep(2) = 3",
            "steps: used = 14", "anew = 2", "anew: order(2) = -1", "build(2): READ 2 = 3");
    }

    private static void reads() {
        due("5 read", 1, x -> number(x.read(4)),
            "about(4, 2) = 3", "dry(15) = 3", "step 2 = 0", "steps: sweep(1) = 1", "steps: sweep(2) = 3",
            "steps: used = 16", "anew: order(1) = 2", "anew: order(2) = 4",
            "build(0): READ 4 = 3", "build(2): READ 4 = 3");
        due("6 build", 1, x -> x.build(0),
            "about(1, 2) = 3", "about(2, 2) = 3", "dry(30) = 2", "step 1 = 0", "step 3 = 0",
            "steps: sweep(1) = 2", "steps: sweep(2) = 2", "steps: used = 34",
            "anew: order(0) = 4", "anew: order(1) = 1", "build(2): READ 1 = 3", "build(2): READ 2 = 3");
        due("6 build of nothing", 1, x -> x.build(2));
        due("6 build of one that isn't whole", 0, x -> x.build(1));
    }

    private static void pins() {
        due("7 pin of a blob", 1, x -> number(x.pin(2, false, 4)),
            "about(4, 1) = 1", "dry(0) = 2", "step 2 = 0", "steps: sweep(1) = 1", "steps: sweep(2) = 3",
            "steps: used = 16", "anew = 2", "anew: order(1) = 2", "anew: order(2) = -1", "free(2) = 1");
        due("7 pin of a result", 1, x -> number(x.pin(2, true, 0)),
            "about(1, 1) = 1", "about(2, 1) = 1", "dry(0) = 1", "dry(15) = 1", "step 1 = 0", "step 3 = 0",
            "steps: sweep(1) = 2", "steps: sweep(2) = 2", "steps: used = 34",
            "anew = 1", "anew: order(0) = 4", "anew: order(1) = -1", "anew: order(2) = -1", "free(2) = 1");
        due("7 pin of a blob in a lease", 1, x -> number(x.pin(0, false, 4)),
            "about(4, 1) = 1", "dry(0) = 2", "step 2 = 0", "steps: sweep(1) = 1", "steps: sweep(2) = 3",
            "steps: used = 16", "anew = 2", "anew: order(1) = 2", "anew: order(2) = -1", "free(0) = 2");
        due("7 pin of a result in a lease", 1, x -> number(x.pin(0, true, 0)),
            "about(1, 1) = 1", "about(2, 1) = 1", "dry(0) = 1", "dry(15) = 1", "step 1 = 0", "step 3 = 0",
            "steps: sweep(1) = 2", "steps: sweep(2) = 2", "steps: used = 34",
            "anew = 1", "anew: order(0) = 4", "anew: order(1) = -1", "anew: order(2) = -1", "free(0) = 2");
        due("7 pin of what is pinned by another", 1, x -> number(x.pin(2, false, 3)), "free(2) = 1");
        due("8 free of a blob and of a lease", 1, x -> x.free(0),
            "about(3, 1) = 0", "dry(0) = 4", "anew = 4", "anew: order(3) = 3", "free(0) = 0", "tick(2): 0 pins = 1");
        due("8 free of a result", 1, x -> x.free(1), "free(1) = 0", "tick(1): 1 pins = 1", "tick(2): 1 pins = 1");
        due("8 free of nothing", 0, x -> x.free(7));
        due("7, 8 pins, and free again", 2, x -> {
            x.pin(2, false, 4);
            x.pin(2, true, 0);
            return x.free(2);
        });
    }

    private static void leases() {
        due("9 lease, sooner", 1, x -> number(x.lease(0, 1)), "tick(1): 0 pins = 0");
        due("9 lease, later", 1, x -> number(x.lease(0, 3)), "tick(2): 0 pins = 1");
        due("9 lease, as it was", 1, x -> number(x.lease(0, 2)));
        due("9 lease of 0", 1, x -> number(x.lease(0, 0)),
            "about(3, 1) = 0", "dry(0) = 4", "anew = 4", "anew: order(3) = 3", "free(0) = 0", "tick(1): 0 pins = 0");
        due("9 lease of one who has pinned nothing", 1, x -> number(x.lease(7, 1)),
            "tick(1): 7 pins = 0", "tick(2): 7 pins = 0");
    }

    private static void ticks() {
        due("10 tick(0)", 3, x -> x.tick(0));
        due("10 tick(1)", 4, x -> x.tick(1),
            "clock = 4", "build(0): READ 1 = 4", "build(0): READ 2 = 4", "tick(1): 0 pins = 0");
        due("10 tick(2), to the end of a lease", 5, x -> x.tick(2),
            "clock = 5", "build(0): READ 1 = 5", "build(0): READ 2 = 5", "tick(1): 0 pins = 0",
            "about(3, 1) = 0", "dry(0) = 4", "anew = 4", "anew: order(3) = 3", "free(0) = 0");
    }

    private static void weightsAndFair() {
        due("11 weight", 1, x -> number(x.weight(1, 0)),
            "share(0) = 20", "share(1) = 0", "share(2) = 20", "share(3) = 20", "share(4) = 20", "share(5) = 20");
        due("11 weight, as it was", 1, x -> number(x.weight(1, 1)));
        due("12 fair", 0, x -> {
            x.fair(true);
            return 0;
        }, "dry(15) = 3", "anew: order(1) = 2", "anew: order(2) = 4");
        due("12 fair, as it was", 0, x -> {
            x.fair(false);
            return 0;
        });
    }

    private static void sweeps() {
        due("13 begin", 3, x -> x.begin(20),
            "sweep(0) = 0", "sweep(2) = 0", "order(0) = 1", "order(1) = 4", "order(2) = 2", "order(3) = -1",
            "step 3 = 0", "step 4 = -1", "steps: sweep(0) = 2", "steps: sweep(2) = 2", "steps: used = 14");
        due("14 step", 1, x -> x.step(1),
            "about(1, 0) = 0", "used(-1) = 26", "used(1) = 10", "whole(0) = 0", "sweep(0) = 2", "sweep(2) = 2",
            "dry(0) = 2", "dry(15) = 1", "dry(30) = 0", "step 3 = 0", "step 4 = -1",
            "anew = 2", "anew: order(0) = 4", "anew: order(1) = 2", "anew: order(2) = -1",
            "build(0) = 0", "build(0): READ 1 = 0", "build(0): READ 2 = 0");
        due("14 step(0)", 0, x -> x.step(0));
        due("15 cut", 1, x -> number(x.cut(true)),
            "step 1 = -1", "step 2 = -1", "step 3 = -1", "step 4 = -1",
            "steps: sweep(0) = 1", "steps: sweep(2) = 1", "steps: sweep(3) = 0", "steps: used = 46",
            "then cut(true) = 0", "then cut(false) = 1");
        due("15 cut, and going on", 2, x -> number(x.cut(true)) + number(x.cut(false)));
    }
}
