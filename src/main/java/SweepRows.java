import java.util.Arrays;

/** A store of blobs kept within its room; ../shared/DOC.md says what each call promises. */
public final class SweepRows {
    public static final int NONE = -1;

    private static final int NO_ROOM = -2;
    private static final int MOST_ROOM = 1000000000;
    private static final int MOST_CLOCK = 1000000000;
    private static final int MOST_TICKS = 1000000;
    private static final int MOST_SIZE = 1000000;
    private static final int MOST_WEIGHT = 100;
    private static final int BLOBS = 40;
    private static final int RESULTS = 16;
    private static final int USES = 8;
    private static final int PROJECTS = 6;
    private static final int HOLDERS = 8;
    // Above every clock and every end of a lease.
    private static final int NEVER = 2000000000;

    private final int room;
    private final Shelf shelf;
    private final Results results;
    private final Holders holders;
    private final Shares shares;
    private final Sweep latest;
    // A dry run has a line of its own, so that the latest sweep's order stays as it is.
    private final Line dryLine;
    private int clock;
    private boolean fairness;

    public SweepRows(int room) {
        this.room = Math.max(0, Math.min(MOST_ROOM, room));
        shelf = new Shelf();
        results = new Results();
        holders = new Holders();
        shares = new Shares(this.room);
        latest = new Sweep();
        dryLine = new Line();
        clock = 0;
        fairness = false;
    }

    public int blob(int size, int project) {
        if (shelf.isFull() || !within(size, 1, MOST_SIZE) || !isProject(project)) {
            return NONE;
        }
        if (shelf.bytes() + size > room) {
            return NO_ROOM;
        }
        return shelf.put(size, project, clock);
    }

    public int result() {
        return results.make();
    }

    public boolean uses(int result, int blob) {
        return results.has(result) && shelf.holds(blob) && results.link(result, blob);
    }

    public boolean read(int blob) {
        if (!shelf.holds(blob)) {
            return false;
        }
        readAll(bit(blob));
        return true;
    }

    public int build(int result) {
        if (!results.has(result)) {
            return NONE;
        }
        if (!whole(result)) {
            return 0;
        }
        readAll(results.blobsOf(result));
        return 1;
    }

    public boolean pin(int holder, boolean result, int which) {
        if (!isHolder(holder) || holders.hasLapsed(holder, clock)) {
            return false;
        }
        if (result) {
            return whole(which) && holders.pinResult(holder, which);
        }
        return shelf.holds(which) && holders.pinBlob(holder, which);
    }

    public int free(int holder) {
        return isHolder(holder) ? holders.release(holder) : NONE;
    }

    public boolean lease(int holder, int ticks) {
        if (!isHolder(holder) || !within(ticks, 0, MOST_TICKS)) {
            return false;
        }
        holders.setEnd(holder, clock + ticks);
        holders.dropLapsed(clock);
        return true;
    }

    public int tick(int n) {
        if (!within(n, 0, MOST_TICKS) || clock + n > MOST_CLOCK) {
            return NONE;
        }
        clock += n;
        holders.dropLapsed(clock);
        return clock;
    }

    public boolean weight(int project, int w) {
        if (!isProject(project) || !within(w, 0, MOST_WEIGHT)) {
            return false;
        }
        shares.weigh(project, w);
        return true;
    }

    public void fair(boolean on) {
        fairness = on;
    }

    public int begin(int wish) {
        if (wish < 0) {
            return NONE;
        }
        latest.restart(wish);
        lineUp(latest.line);
        return latest.line.length();
    }

    public int step(int n) {
        if (n < 0 || !latest.isRunning() || latest.isHalted()) {
            return NONE;
        }
        return latest.takeSteps(n, shelf, pinnedBlobs());
    }

    public boolean cut(boolean on) {
        if (!latest.isRunning() || latest.isHalted() == on) {
            return false;
        }
        latest.halt(on);
        return true;
    }

    public int sweep(int what) {
        return latest.tell(what);
    }

    public int order(int i) {
        return latest.line.at(i);
    }

    public int dry(int wish) {
        if (wish < 0) {
            return NONE;
        }
        lineUp(dryLine);
        return dryLine.countDownTo(wish, shelf);
    }

    public int about(int blob, int what) {
        if (!shelf.knows(blob)) {
            return NONE;
        }
        switch (what) {
            case 0:
                return shelf.holds(blob) ? 1 : 0;
            case 1:
                return isIn(pinnedBlobs(), blob) ? 1 : 0;
            case 2:
                return shelf.lastRead(blob);
            default:
                return NONE;
        }
    }

    public int used(int project) {
        return project == NONE ? shelf.bytes() : shelf.bytesOf(project);
    }

    public int share(int project) {
        return isProject(project) ? shares.of(project) : 0;
    }

    public boolean whole(int result) {
        return results.has(result) && shelf.holdsAll(results.blobsOf(result));
    }

    private void readAll(long blobs) {
        shelf.markRead(blobs, clock);
        latest.noteRead(blobs);
    }

    private long pinnedBlobs() {
        return holders.pinned(results);
    }

    private void lineUp(Line line) {
        long candidates = shelf.allThere() & ~pinnedBlobs();
        long ahead = fairness ? blobsOfOverProjects() : 0L;
        line.fill(shelf, candidates, ahead, clock);
    }

    private long blobsOfOverProjects() {
        long found = 0L;
        for (int project = 0; project < PROJECTS; project++) {
            if (shelf.bytesOf(project) > shares.of(project)) {
                found |= shelf.thereOf(project);
            }
        }
        return found;
    }

    private static boolean isProject(int project) {
        return within(project, 0, PROJECTS - 1);
    }

    private static boolean isHolder(int holder) {
        return within(holder, 0, HOLDERS - 1);
    }

    private static boolean within(int value, int least, int most) {
        return value >= least && value <= most;
    }

    // Sets of blobs are kept as the bits of a long: there are at most 40.
    private static long bit(int blob) {
        return 1L << blob;
    }

    private static boolean isIn(long blobs, int blob) {
        return (blobs & (1L << blob)) != 0L;
    }

    /** The blobs: what each is, when it was read last, and which are there. */
    private static final class Shelf {
        private final int[] sizes = new int[BLOBS];
        private final int[] projects = new int[BLOBS];
        private final int[] reads = new int[BLOBS];
        private long there = 0L;
        private int count = 0;

        boolean isFull() {
            return count >= BLOBS;
        }

        boolean knows(int blob) {
            return blob >= 0 && blob < count;
        }

        boolean holds(int blob) {
            return knows(blob) && isIn(there, blob);
        }

        boolean holdsAll(long blobs) {
            return (blobs & ~there) == 0L;
        }

        long allThere() {
            return there;
        }

        int put(int size, int project, int now) {
            if (isFull()) {
                return NONE;
            }
            int blob = count;
            sizes[blob] = size;
            projects[blob] = project;
            reads[blob] = now;
            there |= bit(blob);
            count++;
            return blob;
        }

        void remove(int blob) {
            if (knows(blob)) {
                there &= ~bit(blob);
            }
        }

        void markRead(long blobs, int now) {
            for (int blob = 0; blob < count; blob++) {
                if (isIn(blobs, blob)) {
                    reads[blob] = now;
                }
            }
        }

        int sizeOf(int blob) {
            return knows(blob) ? sizes[blob] : 0;
        }

        int lastRead(int blob) {
            return knows(blob) ? reads[blob] : NONE;
        }

        long sizeTimesAge(int blob, int now) {
            return knows(blob) ? (long) sizes[blob] * (now - reads[blob]) : 0L;
        }

        long thereOf(int project) {
            long found = 0L;
            for (int blob = 0; blob < count; blob++) {
                if (isIn(there, blob) && projects[blob] == project) {
                    found |= bit(blob);
                }
            }
            return found;
        }

        int bytes() {
            return sum(there);
        }

        int bytesOf(int project) {
            return sum(thereOf(project));
        }

        private int sum(long blobs) {
            int total = 0;
            for (int blob = 0; blob < count; blob++) {
                if (isIn(blobs, blob)) {
                    total += sizes[blob];
                }
            }
            return total;
        }
    }

    /** The results, each with the set of blobs that it uses. */
    private static final class Results {
        private final long[] blobs = new long[RESULTS];
        private int count = 0;

        boolean has(int result) {
            return result >= 0 && result < count;
        }

        int make() {
            if (count >= RESULTS) {
                return NONE;
            }
            count++;
            return count - 1;
        }

        long blobsOf(int result) {
            return has(result) ? blobs[result] : 0L;
        }

        boolean link(int result, int blob) {
            if (!has(result) || isIn(blobs[result], blob) || Long.bitCount(blobs[result]) >= USES) {
                return false;
            }
            blobs[result] |= bit(blob);
            return true;
        }
    }

    /** What the holders have pinned, and when their leases end. */
    private static final class Holders {
        private final long[] blobs = new long[HOLDERS];
        private final int[] results = new int[HOLDERS];
        private final int[] ends = new int[HOLDERS];

        Holders() {
            Arrays.fill(ends, NEVER);
        }

        boolean hasLapsed(int holder, int now) {
            return isHolder(holder) && now >= ends[holder];
        }

        boolean pinBlob(int holder, int blob) {
            if (!isHolder(holder) || isIn(blobs[holder], blob)) {
                return false;
            }
            blobs[holder] |= bit(blob);
            return true;
        }

        boolean pinResult(int holder, int result) {
            if (!isHolder(holder) || pinsResult(holder, result)) {
                return false;
            }
            results[holder] |= 1 << result;
            return true;
        }

        int release(int holder) {
            if (!isHolder(holder)) {
                return NONE;
            }
            int pins = Long.bitCount(blobs[holder]) + Integer.bitCount(results[holder]);
            unpin(holder);
            ends[holder] = NEVER;
            return pins;
        }

        void setEnd(int holder, int end) {
            if (isHolder(holder)) {
                ends[holder] = end;
            }
        }

        // Pins go when the lease ends, so that a later lease does not bring them back.
        void dropLapsed(int now) {
            for (int holder = 0; holder < HOLDERS; holder++) {
                if (hasLapsed(holder, now)) {
                    unpin(holder);
                }
            }
        }

        // A result's blobs are looked up anew each time: it may use more of them after the pin.
        long pinned(Results all) {
            long found = 0L;
            for (int holder = 0; holder < HOLDERS; holder++) {
                found |= blobs[holder];
                for (int result = 0; result < RESULTS; result++) {
                    if (pinsResult(holder, result)) {
                        found |= all.blobsOf(result);
                    }
                }
            }
            return found;
        }

        private boolean pinsResult(int holder, int result) {
            return (results[holder] & (1 << result)) != 0;
        }

        private void unpin(int holder) {
            blobs[holder] = 0L;
            results[holder] = 0;
        }
    }

    /** The weights of the projects, and the shares of the room that follow from them. */
    private static final class Shares {
        private final int room;
        private final int[] weights = new int[PROJECTS];
        private final int[] bytes = new int[PROJECTS];
        private final long[] remainders = new long[PROJECTS];

        Shares(int room) {
            this.room = room;
            Arrays.fill(weights, 1);
            divide();
        }

        int of(int project) {
            return isProject(project) ? bytes[project] : 0;
        }

        void weigh(int project, int w) {
            if (isProject(project)) {
                weights[project] = w;
                divide();
            }
        }

        private void divide() {
            int sum = 0;
            for (int project = 0; project < PROJECTS; project++) {
                sum += weights[project];
            }
            if (sum <= 0) {
                Arrays.fill(bytes, 0);
                return;
            }
            int left = room;
            for (int project = 0; project < PROJECTS; project++) {
                long part = (long) room * weights[project];
                bytes[project] = (int) (part / sum);
                remainders[project] = part % sum;
                left -= bytes[project];
            }
            handOut(left);
        }

        private void handOut(int left) {
            int most = Math.min(left, PROJECTS);
            for (int given = 0; given < most; given++) {
                int next = greatestRemainder();
                bytes[next]++;
                // Below every true remainder: no project gets a second byte.
                remainders[next] = -1L;
            }
        }

        private int greatestRemainder() {
            int greatest = 0;
            for (int project = 1; project < PROJECTS; project++) {
                if (remainders[project] > remainders[greatest]) {
                    greatest = project;
                }
            }
            return greatest;
        }
    }

    /** The order in which candidates go. */
    private static final class Line {
        private final int[] blobs = new int[BLOBS];
        private int length = 0;

        int length() {
            return length;
        }

        int at(int i) {
            return i >= 0 && i < length ? blobs[i] : NONE;
        }

        void fill(Shelf shelf, long candidates, long ahead, int now) {
            length = 0;
            for (int blob = 0; blob < BLOBS; blob++) {
                if (isIn(candidates, blob)) {
                    insert(blob, shelf, ahead, now);
                }
            }
        }

        int countDownTo(int wish, Shelf shelf) {
            int left = shelf.bytes();
            int count = 0;
            while (count < length && left > wish) {
                left -= shelf.sizeOf(blobs[count]);
                count++;
            }
            return count;
        }

        // Blobs come by rising number, so one that ties with those before it stays behind them.
        private void insert(int blob, Shelf shelf, long ahead, int now) {
            if (length >= BLOBS) {
                return;
            }
            int place = length;
            while (place > 0 && goesBefore(blob, blobs[place - 1], shelf, ahead, now)) {
                blobs[place] = blobs[place - 1];
                place--;
            }
            blobs[place] = blob;
            length++;
        }

        private static boolean goesBefore(int one, int other, Shelf shelf, long ahead, int now) {
            if (isIn(ahead, one) != isIn(ahead, other)) {
                return isIn(ahead, one);
            }
            long oneProduct = shelf.sizeTimesAge(one, now);
            long otherProduct = shelf.sizeTimesAge(other, now);
            if (oneProduct != otherProduct) {
                return oneProduct > otherProduct;
            }
            return shelf.lastRead(one) < shelf.lastRead(other);
        }
    }

    /** The latest sweep; one object serves all sweeps, one after the other. */
    private static final class Sweep {
        private final Line line = new Line();
        private boolean begun = false;
        private boolean over = false;
        private boolean halted = false;
        private int wish = 0;
        private int taken = 0;
        private int spared = 0;
        private int dropped = 0;
        // Kept beside the clock of the reads: a read may come at the very tick of begin.
        private long readSince = 0L;

        void restart(int newWish) {
            begun = true;
            over = false;
            halted = false;
            wish = newWish;
            taken = 0;
            spared = 0;
            dropped = 0;
            readSince = 0L;
        }

        boolean isRunning() {
            return begun && !over;
        }

        boolean isHalted() {
            return halted;
        }

        void halt(boolean on) {
            halted = on;
        }

        void noteRead(long blobs) {
            readSince |= blobs;
        }

        int takeSteps(int n, Shelf shelf, long pinned) {
            int before = dropped;
            // Each step takes a blob of the line or ends the sweep, so more than these are never made.
            int most = Math.min(n, BLOBS + 1);
            for (int i = 0; i < most && !over; i++) {
                takeStep(shelf, pinned);
            }
            return dropped - before;
        }

        private void takeStep(Shelf shelf, long pinned) {
            if (shelf.bytes() <= wish || taken >= line.length()) {
                over = true;
                return;
            }
            int blob = line.at(taken);
            taken++;
            if (!shelf.holds(blob) || isIn(readSince | pinned, blob)) {
                spared++;
            } else {
                shelf.remove(blob);
                dropped++;
            }
        }

        int tell(int what) {
            if (!begun) {
                return NONE;
            }
            switch (what) {
                case 0:
                    return taken;
                case 1:
                    return spared;
                case 2:
                    return dropped;
                case 3:
                    return over ? 1 : 0;
                default:
                    return NONE;
            }
        }
    }
}
