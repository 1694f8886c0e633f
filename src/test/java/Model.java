import java.util.ArrayList;
import java.util.Comparator;
import java.util.List;
import java.util.TreeSet;

/** The document told a second time, with lists and sets of the Java library, to compare answers with. */
final class Model {
    private record Pin(int holder, boolean result, int which) {
    }

    private static final class Blob {
        int size;
        int project;
        int read;
        boolean there = true;
        int readEvent;
    }

    private final long room;
    private final List<Blob> blobs = new ArrayList<>();
    private final List<TreeSet<Integer>> results = new ArrayList<>();
    private final List<Pin> pins = new ArrayList<>();
    private final Long[] leaseEnds = new Long[8];
    private final int[] weights = {1, 1, 1, 1, 1, 1};
    private long clock = 0;
    private boolean fair = false;
    private int events = 0;
    private List<Integer> order = null;
    private int beginEvent;
    private long wish;
    private int taken;
    private int spared;
    private int dropped;
    private boolean over;
    private boolean cut;

    Model(int room) {
        this.room = room < 0 ? 0 : room > 1000000000 ? 1000000000 : room;
    }

    int blob(int size, int project) {
        if (blobs.size() == 40 || size < 1 || size > 1000000 || project < 0 || project > 5) {
            return -1;
        }
        if (used(-1) + (long) size > room) {
            return -2;
        }
        Blob blob = new Blob();
        blob.size = size;
        blob.project = project;
        blob.read = (int) clock;
        blob.readEvent = events;
        blobs.add(blob);
        return blobs.size() - 1;
    }

    int result() {
        if (results.size() == 16) {
            return -1;
        }
        results.add(new TreeSet<>());
        return results.size() - 1;
    }

    boolean uses(int result, int blob) {
        return known(results, result) && there(blob) && results.get(result).size() < 8
            && results.get(result).add(blob);
    }

    boolean read(int blob) {
        if (!there(blob)) {
            return false;
        }
        blobs.get(blob).read = (int) clock;
        blobs.get(blob).readEvent = ++events;
        return true;
    }

    int build(int result) {
        if (!known(results, result)) {
            return -1;
        }
        if (!whole(result)) {
            return 0;
        }
        results.get(result).forEach(this::read);
        return 1;
    }

    boolean pin(int holder, boolean result, int which) {
        if (holder < 0 || holder > 7 || lapsed(holder) || !(result ? whole(which) : there(which))) {
            return false;
        }
        Pin pin = new Pin(holder, result, which);
        return !pins.contains(pin) && pins.add(pin);
    }

    int free(int holder) {
        if (holder < 0 || holder > 7) {
            return -1;
        }
        int before = pins.size();
        pins.removeIf(pin -> pin.holder() == holder);
        leaseEnds[holder] = null;
        return before - pins.size();
    }

    boolean lease(int holder, int ticks) {
        if (holder < 0 || holder > 7 || ticks < 0 || ticks > 1000000) {
            return false;
        }
        leaseEnds[holder] = clock + ticks;
        pins.removeIf(pin -> lapsed(pin.holder()));
        return true;
    }

    int tick(int n) {
        if (n < 0 || n > 1000000 || clock + n > 1000000000L) {
            return -1;
        }
        clock += n;
        pins.removeIf(pin -> lapsed(pin.holder()));
        return (int) clock;
    }

    boolean weight(int project, int w) {
        if (project < 0 || project > 5 || w < 0 || w > 100) {
            return false;
        }
        weights[project] = w;
        return true;
    }

    void fair(boolean on) {
        fair = on;
    }

    int begin(int newWish) {
        if (newWish < 0) {
            return -1;
        }
        order = candidates();
        beginEvent = ++events;
        wish = newWish;
        taken = 0;
        spared = 0;
        dropped = 0;
        over = false;
        cut = false;
        return order.size();
    }

    int step(int n) {
        if (order == null || over || cut || n < 0) {
            return -1;
        }
        int before = dropped;
        for (int i = 0; i < n; i++) {
            if (used(-1) <= wish || taken == order.size()) {
                over = true;
                break;
            }
            int next = order.get(taken++);
            if (blobs.get(next).readEvent > beginEvent || pinned(next) || !there(next)) {
                spared++;
            } else {
                blobs.get(next).there = false;
                dropped++;
            }
        }
        return dropped - before;
    }

    boolean cut(boolean on) {
        if (order == null || over || cut == on) {
            return false;
        }
        cut = on;
        return true;
    }

    int sweep(int what) {
        if (order == null || what < 0 || what > 3) {
            return -1;
        }
        return new int[] {taken, spared, dropped, over ? 1 : 0}[what];
    }

    int order(int i) {
        return order != null && known(order, i) ? order.get(i) : -1;
    }

    int dry(int someWish) {
        if (someWish < 0) {
            return -1;
        }
        long left = used(-1);
        int count = 0;
        for (int blob : candidates()) {
            if (left <= someWish) {
                break;
            }
            left -= blobs.get(blob).size;
            count++;
        }
        return count;
    }

    int about(int blob, int what) {
        if (!known(blobs, blob) || what < 0 || what > 2) {
            return -1;
        }
        return new int[] {there(blob) ? 1 : 0, pinned(blob) ? 1 : 0, blobs.get(blob).read}[what];
    }

    int used(int project) {
        return blobs.stream().filter(b -> b.there && (project == -1 || b.project == project))
            .mapToInt(b -> b.size).sum();
    }

    /** By counting the projects that come before this one for the bytes left. */
    int share(int project) {
        long sum = 0;
        for (int w : weights) {
            sum += w;
        }
        if (project < 0 || project > 5 || sum == 0) {
            return 0;
        }
        long left = room;
        int before = 0;
        for (int p = 0; p < 6; p++) {
            left -= room * weights[p] / sum;
            long more = room * weights[p] % sum - room * weights[project] % sum;
            before += more > 0 || more == 0 && p < project ? 1 : 0;
        }
        return (int) (room * weights[project] / sum) + (before < left ? 1 : 0);
    }

    boolean whole(int result) {
        return known(results, result) && results.get(result).stream().allMatch(this::there);
    }

    private static boolean known(List<?> list, int i) {
        return i >= 0 && i < list.size();
    }

    private boolean there(int blob) {
        return known(blobs, blob) && blobs.get(blob).there;
    }

    private boolean lapsed(int holder) {
        return leaseEnds[holder] != null && clock >= leaseEnds[holder];
    }

    private boolean pinned(int blob) {
        return pins.stream().anyMatch(
            pin -> pin.result() ? results.get(pin.which()).contains(blob) : pin.which() == blob);
    }

    private List<Integer> candidates() {
        List<Integer> found = new ArrayList<>();
        for (int i = 0; i < blobs.size(); i++) {
            if (there(i) && !pinned(i)) {
                found.add(i);
            }
        }
        Comparator<Integer> late = Comparator.comparing(
            i -> !fair || used(blobs.get(i).project) <= share(blobs.get(i).project));
        found.sort(late
            .thenComparing(i -> -(clock - blobs.get(i).read) * blobs.get(i).size)
            .thenComparing(i -> blobs.get(i).read)
            .thenComparing(i -> i));
        return found;
    }
}
