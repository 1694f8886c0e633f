import java.util.ArrayList;
import java.util.List;
import java.util.Set;
import java.util.TreeSet;

/**
 * A refused call changes nothing, nor does a question (all promises): each of them is put before each call
 * of a run, and all later answers must be those of the run without it.
 */
public final class RefusedCallsTest {
    private static final int MIN = Integer.MIN_VALUE;
    private static final int MAX = Integer.MAX_VALUE;
    private static final int[] ODD = {MIN, -64, -2, -1, 0, 1, 2, 3, 5, 6, 7, 8, 15, 16, 39, 40, 63, 64, 100, 101,
        1000000, 1000001, 1000000001, MAX};
    private static final int[] FEW = {MIN, -1, 0, 1, 3, 5, 6, 7, 8, 15, 16, 40, 101, 1000001, MAX};
    private static final Set<String> CAN_BE_REFUSED = Set.of("blob", "result", "uses", "read", "build", "pin", "free",
        "lease", "tick", "weight", "begin", "step", "cut");
    private static final Set<String> QUESTIONS = Set.of("sweep", "order", "dry", "about", "used", "share", "whole");

    private record Call(String name, int a, int b, boolean on) {
        int on(SweepRows x) {
            return switch (name) {
                case "blob" -> x.blob(a, b);
                case "result" -> x.result();
                case "uses" -> number(x.uses(a, b));
                case "read" -> number(x.read(a));
                case "build" -> x.build(a);
                case "pin" -> number(x.pin(a, on, b));
                case "free" -> x.free(a);
                case "lease" -> number(x.lease(a, b));
                case "tick" -> x.tick(a);
                case "weight" -> number(x.weight(a, b));
                case "fair" -> fair(x);
                case "begin" -> x.begin(a);
                case "step" -> x.step(a);
                case "cut" -> number(x.cut(on));
                case "sweep" -> x.sweep(a);
                case "order" -> x.order(a);
                case "dry" -> x.dry(a);
                case "about" -> x.about(a, b);
                case "used" -> x.used(a);
                case "share" -> x.share(a);
                default -> number(x.whole(a));
            };
        }

        private int fair(SweepRows x) {
            x.fair(on);
            return 0;
        }

        private static int number(boolean yes) {
            return yes ? 1 : 0;
        }

        boolean changesNothing(int answer) {
            boolean refused = switch (name) {
                case "blob", "result", "free", "tick", "begin", "step" -> answer < 0;
                default -> answer <= 0;
            };
            return QUESTIONS.contains(name) || CAN_BE_REFUSED.contains(name) && refused;
        }
    }

    private static final List<Call> RUN = new ArrayList<>();
    private static final Set<String> SEEN = new TreeSet<>();

    public static void main(String[] args) {
        makeRun();
        int[] due = answers(new SweepRows(60), 0);
        for (Call extra : extras()) {
            for (int place = 0; place <= RUN.size(); place++) {
                compare(extra, place, due);
            }
        }
        Set<String> all = new TreeSet<>(CAN_BE_REFUSED);
        all.addAll(QUESTIONS);
        Due.yes("each kind of call was seen to be refused, or is a question: " + SEEN, SEEN.equals(all));
        Due.end();
    }

    private static void compare(Call extra, int place, int[] due) {
        SweepRows x = new SweepRows(60);
        for (int i = 0; i < place; i++) {
            RUN.get(i).on(x);
        }
        int answer = extra.on(x);
        if (!extra.changesNothing(answer)) {
            return;
        }
        SEEN.add(extra.name());
        int[] got = answers(x, place);
        for (int i = 0; i < got.length; i++) {
            if (got[i] != due[place + i]) {
                Due.is(extra + " before call " + place + ", answer " + (place + i), due[place + i], got[i]);
                return;
            }
        }
    }

    /** The answers of the run from that place on, and of all questions at its end. */
    private static int[] answers(SweepRows x, int place) {
        List<Integer> found = new ArrayList<>();
        for (int i = place; i < RUN.size(); i++) {
            found.add(RUN.get(i).on(x));
        }
        for (int i = 0; i < 40; i++) {
            for (int what = 0; what < 3; what++) {
                found.add(x.about(i, what));
            }
            found.add(x.order(i));
        }
        for (int i = -1; i < 16; i++) {
            found.add(x.whole(i) ? 1 : 0);
            found.add(x.sweep(i));
            found.add(x.used(i));
            found.add(x.share(i));
            found.add(x.dry(i));
        }
        for (int holder = 0; holder < 8; holder++) {
            found.add(x.free(holder));
        }
        return found.stream().mapToInt(Integer::intValue).toArray();
    }

    private static List<Call> extras() {
        List<Call> found = new ArrayList<>();
        for (String name : List.of("read", "build", "free", "tick", "begin", "step", "sweep", "order", "dry", "used",
                "share", "whole")) {
            for (int a : ODD) {
                found.add(new Call(name, a, 0, false));
            }
        }
        for (String name : List.of("blob", "uses", "lease", "weight", "about", "pin")) {
            for (int a : FEW) {
                for (int b : FEW) {
                    found.add(new Call(name, a, b, false));
                }
            }
        }
        for (int a : FEW) {
            for (int b : FEW) {
                found.add(new Call("pin", a, b, true));
            }
        }
        found.add(new Call("result", 0, 0, false));
        found.add(new Call("cut", 0, 0, false));
        found.add(new Call("cut", 0, 0, true));
        return found;
    }

    private static void add(String name, int a, int b) {
        RUN.add(new Call(name, a, b, false));
    }

    private static void add(String name, boolean on) {
        RUN.add(new Call(name, 0, 0, on));
    }

    private static void makeRun() {
        fillTheStore();
        sweepInACut();
        fillTheResults();
        sweepFairly();
        fillTheBlobs();
    }

    private static void fillTheStore() {
        add("blob", 20, 0);
        add("blob", 15, 1);
        add("tick", 2, 0);
        add("result", 0, 0);
        add("uses", 0, 0);
        add("uses", 0, 1);
        add("blob", 9, 1);
        add("blob", 8, 5);
        add("pin", 1, 1);
        add("lease", 1, 6);
        add("tick", 3, 0);
        add("blob", 8, 0);
        add("weight", 1, 3);
        add("build", 0, 0);
    }

    private static void sweepInACut() {
        add("begin", 20, 0);
        add("cut", true);
        add("read", 3, 0);
        add("tick", 1, 0);
        add("cut", false);
        RUN.add(new Call("pin", 0, 0, true));
        add("step", 2, 0);
        add("free", 0, 0);
        add("step", 9, 0);
        add("tick", 5, 0);
    }

    private static void fillTheResults() {
        for (int i = 1; i < 16; i++) {
            add("result", 0, 0);
        }
        for (int i = 0; i < 8; i++) {
            add("blob", 1, i % 6);
            add("uses", 3, 5 + i);
        }
        RUN.add(new Call("pin", 7, 3, true));
        add("lease", 7, 1000000);
    }

    private static void sweepFairly() {
        add("fair", true);
        add("weight", 5, 0);
        add("tick", 4, 0);
        add("begin", 1, 0);
        add("step", 1, 0);
        add("pin", 5, 0);
        add("step", 1, 0);
        add("begin", 0, 0);
        add("step", 41, 0);
        add("tick", 1, 0);
    }

    private static void fillTheBlobs() {
        for (int i = 0; i < 28; i++) {
            add("blob", 1, i % 6);
        }
        add("tick", 1, 0);
        add("begin", 12, 0);
        add("step", 3, 0);
        add("cut", true);
    }
}
