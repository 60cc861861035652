import java.util.ArrayList;

/** Jobs that wait in classes, and initiators that start them. */
public final class InitiatorRows {
    public static final int NONE = -1;

    private static final int NO_SUCH = -2;
    private static final int OUTSIDE = -4;
    private static final int WRONG_STATE = -5;
    private static final int DONE = 1;
    private static final int NOTHING_DONE = 0;

    private static final int MOST_INITIATORS = 12;
    private static final int PLACES = 8;
    private static final int MOST_JOBS = 100;
    private static final int CLASSES = 36;
    private static final int MOST_LIMIT = 40;
    private static final int KINDS = 4;
    private static final int MOST_UNITS = 1000;
    private static final int MOST_WEIGHT = 1000;
    private static final int TOP_PRIORITY = 15;
    private static final int NAMES = 100;
    private static final int DAY = 1440;

    private static final int WAITS = 0;
    private static final int HELD = 1;
    private static final int RUNS = 2;
    private static final int ENDED = 3;

    private static final int NO_JOB = 0;
    private static final int FIRST_KIND_COUNT = 10;

    private final ArrayList<Initiator> initiators;
    private final ArrayList<Job> jobs;
    private final int[] limits;
    private final int[] windowStarts;
    private final int[] windowEnds;
    private final int[] weights;
    private final int[] unitsThere;
    private final Load load;
    private final NumberSet ended;
    private long now;
    private long agePer;
    private int ageMost;

    public InitiatorRows() {
        initiators = new ArrayList<>();
        jobs = new ArrayList<>();
        limits = new int[CLASSES];
        for (int c = 0; c < limits.length; c++) {
            limits[c] = MOST_LIMIT;
        }
        windowStarts = new int[CLASSES];
        windowEnds = new int[CLASSES];
        weights = new int[CLASSES];
        unitsThere = new int[KINDS];
        load = new Load();
        ended = new NumberSet();
        now = 0;
        agePer = 0;
        ageMost = 0;
    }

    public int initiator() {
        if (initiators.size() >= MOST_INITIATORS) {
            return NONE;
        }
        initiators.add(new Initiator());
        return initiators.size();
    }

    public int cls(int initiator, int order, int c) {
        Initiator one = findInitiator(initiator);
        if (one == null) {
            return NO_SUCH;
        }
        if (!isIn(order, 0, PLACES - 1) || !(c == NONE || isClass(c))) {
            return OUTSIDE;
        }
        one.list[order] = c;
        return DONE;
    }

    public int limit(int c, int n) {
        if (!isClass(c) || !isIn(n, 0, MOST_LIMIT)) {
            return OUTSIDE;
        }
        limits[c] = n;
        return DONE;
    }

    public int window(int c, int from, int to) {
        if (!isClass(c) || !isIn(from, 0, DAY - 1) || !isIn(to, 0, DAY - 1)) {
            return OUTSIDE;
        }
        windowStarts[c] = from;
        windowEnds[c] = to;
        return DONE;
    }

    public int job(int c, int priority, int name, long t) {
        if (!isClass(c) || !isIn(priority, 0, TOP_PRIORITY) || !isIn(name, 0, NAMES - 1) || t < now) {
            return OUTSIDE;
        }
        if (jobs.size() >= MOST_JOBS) {
            return NONE;
        }
        now = t;
        int number = jobs.size() + 1;
        jobs.add(new Job(number, c, priority, name, t));
        return number;
    }

    public int needs(int job, int other) {
        Job one = findJob(job);
        Job needed = findJob(other);
        if (one == null || needed == null) {
            return NO_SUCH;
        }
        if (!one.isWaiting()) {
            return WRONG_STATE;
        }
        if (job == other || needed.deepNeeds.has(job)) {
            return NOTHING_DONE;
        }
        addNeed(one, needed);
        return DONE;
    }

    public int units(int kind, int n) {
        if (!isKind(kind) || !isIn(n, 0, MOST_UNITS)) {
            return OUTSIDE;
        }
        unitsThere[kind] = n;
        return DONE;
    }

    public int uses(int job, int kind, int n) {
        Job one = findJob(job);
        if (one == null) {
            return NO_SUCH;
        }
        if (!isKind(kind) || !isIn(n, 0, MOST_UNITS)) {
            return OUTSIDE;
        }
        if (!one.isWaiting()) {
            return WRONG_STATE;
        }
        one.unitsUsed[kind] = n;
        return DONE;
    }

    public int alone(int job) {
        Job one = findJob(job);
        if (one == null) {
            return NO_SUCH;
        }
        if (!one.isWaiting()) {
            return WRONG_STATE;
        }
        one.runsAlone = true;
        return DONE;
    }

    public int hold(int job, boolean on) {
        Job one = findJob(job);
        if (one == null) {
            return NO_SUCH;
        }
        if (!one.isWaiting()) {
            return WRONG_STATE;
        }
        int wanted = on ? HELD : WAITS;
        if (one.stage == wanted) {
            return NOTHING_DONE;
        }
        one.stage = wanted;
        return DONE;
    }

    public int next(int initiator, long t) {
        Initiator one = findInitiator(initiator);
        if (one == null) {
            return NO_SUCH;
        }
        if (t < now) {
            return OUTSIDE;
        }
        if (one.drained || one.runningJob != NO_JOB) {
            return WRONG_STATE;
        }
        now = t;
        Job found = nextFor(one);
        if (found == null) {
            return NO_JOB;
        }
        startJob(one, found);
        return found.number;
    }

    public int end(int job) {
        Job one = findJob(job);
        if (one == null) {
            return NO_SUCH;
        }
        if (one.stage != RUNS) {
            return WRONG_STATE;
        }
        stopJob(one);
        return DONE;
    }

    public int age(long per, int most) {
        if (per < 0 || !isIn(most, 0, TOP_PRIORITY)) {
            return OUTSIDE;
        }
        agePer = per;
        ageMost = most;
        return DONE;
    }

    public int drain(int initiator, boolean on) {
        Initiator one = findInitiator(initiator);
        if (one == null) {
            return NO_SUCH;
        }
        if (one.drained == on) {
            return NOTHING_DONE;
        }
        one.drained = on;
        return DONE;
    }

    public int weight(int c, int w) {
        if (!isClass(c) || !isIn(w, 0, MOST_WEIGHT)) {
            return OUTSIDE;
        }
        weights[c] = w;
        return DONE;
    }

    public long share(int c, long all) throws ArithmeticException {
        if (!isClass(c) || all < 0) {
            return NONE;
        }
        long sum = sumOfWeights();
        if (sum <= 0) {
            throw new ArithmeticException("all weights are 0");
        }
        // All times a weight may pass a long's range. The whole sums in all are
        // shared without a remainder, so only what is behind them needs dividing.
        long behind = all % sum;
        long own = behind * weights[c] % sum;
        long remainders = 0;
        int ahead = 0;
        for (int k = 0; k < weights.length; k++) {
            long remainder = behind * weights[k] % sum;
            remainders += remainder;
            if (remainder > own || (remainder == own && k < c)) {
                ahead++;
            }
        }
        // The remainders add up to one sum for each that rounding down leaves over.
        long left = remainders / sum;
        long rounded = all / sum * weights[c] + behind * weights[c] / sum;
        return ahead < left ? rounded + 1 : rounded;
    }

    public int order(int i) {
        if (i < 0) {
            return NONE;
        }
        int ahead = i;
        for (int priority = TOP_PRIORITY; priority >= 0; priority--) {
            for (int k = 0; k < jobs.size(); k++) {
                Job one = jobs.get(k);
                if (one.stage == WAITS && priorityNow(one) == priority) {
                    if (ahead == 0) {
                        return one.number;
                    }
                    ahead--;
                }
            }
        }
        return NONE;
    }

    public long waited(int job) {
        Job one = findJob(job);
        if (one == null) {
            return NONE;
        }
        return (one.isWaiting() ? now : one.started) - one.arrived;
    }

    public int state(int job) {
        Job one = findJob(job);
        return one == null ? NONE : one.stage;
    }

    public int count(int what) {
        switch (what) {
            case 0:
                return initiators.size();
            case 1:
                return jobs.size();
            case 2:
                return jobsIn(WAITS) + jobsIn(HELD);
            case 3:
                return jobsIn(HELD);
            case 4:
                return load.running;
            case 5:
                return drainedAndIdle();
            default:
                return unitsInUse(what);
        }
    }

    private static boolean isIn(int n, int least, int most) {
        return n >= least && n <= most;
    }

    private static boolean isClass(int c) {
        return isIn(c, 0, CLASSES - 1);
    }

    private static boolean isKind(int kind) {
        return isIn(kind, 0, KINDS - 1);
    }

    private Initiator findInitiator(int number) {
        return isIn(number, 1, initiators.size()) ? initiators.get(number - 1) : null;
    }

    private Job findJob(int number) {
        return isIn(number, 1, jobs.size()) ? jobs.get(number - 1) : null;
    }

    /** Every job keeps its needs at all depths, so those that need this one get the new ones too. */
    private void addNeed(Job one, Job needed) {
        for (int k = 0; k < jobs.size(); k++) {
            Job other = jobs.get(k);
            if (other == one || other.deepNeeds.has(one.number)) {
                other.deepNeeds.put(needed.number);
                other.deepNeeds.putAll(needed.deepNeeds);
            }
        }
    }

    private Job nextFor(Initiator one) {
        for (int place = 0; place < one.list.length; place++) {
            int c = one.list[place];
            Job found = c == NONE ? null : nextOfClass(c);
            if (found != null) {
                return found;
            }
        }
        return null;
    }

    /** Jobs stand in order of arrival, so an equal one that comes later never takes the place. */
    private Job nextOfClass(int c) {
        Job best = null;
        for (int k = 0; k < jobs.size(); k++) {
            Job one = jobs.get(k);
            if (one.inClass == c && mayStart(one)
                    && (best == null || priorityNow(one) > priorityNow(best))) {
                best = one;
            }
        }
        return best;
    }

    /**
     * The needs at all depths are asked, not the direct ones alone: that is the
     * same, as a job that has ended started only when all its own needs had.
     */
    private boolean mayStart(Job one) {
        return one.stage == WAITS
                && load.ofClass[one.inClass] < limits[one.inClass]
                && isWindowOpen(one.inClass)
                && !load.names.has(one.name)
                && one.deepNeeds.isWithin(ended)
                && areUnitsEnough(one)
                && !load.aloneRuns
                && !(one.runsAlone && load.running > 0);
    }

    private boolean isWindowOpen(int c) {
        int minute = (int) (now % DAY);
        int from = windowStarts[c];
        int to = windowEnds[c];
        if (from == to) {
            return true;
        }
        return from < to ? minute >= from && minute < to : minute >= from || minute < to;
    }

    /** A kind of which too much is in use already stops jobs that use none of it too. */
    private boolean areUnitsEnough(Job one) {
        for (int kind = 0; kind < KINDS; kind++) {
            if (one.unitsUsed[kind] + load.unitsUsed[kind] > unitsThere[kind]) {
                return false;
            }
        }
        return true;
    }

    private int priorityNow(Job one) {
        int room = ageMost - one.priority;
        if (agePer <= 0 || room <= 0) {
            return one.priority;
        }
        long steps = (now - one.arrived) / agePer;
        return one.priority + (int) Math.min(steps, (long) room);
    }

    private void startJob(Initiator by, Job one) {
        by.runningJob = one.number;
        one.stage = RUNS;
        one.started = now;
        load.take(one);
    }

    private void stopJob(Job one) {
        for (int k = 0; k < initiators.size(); k++) {
            Initiator by = initiators.get(k);
            if (by.runningJob == one.number) {
                by.runningJob = NO_JOB;
            }
        }
        one.stage = ENDED;
        ended.put(one.number);
        load.release(one);
    }

    private long sumOfWeights() {
        long sum = 0;
        for (int c = 0; c < weights.length; c++) {
            sum += weights[c];
        }
        return sum;
    }

    private int jobsIn(int stage) {
        int found = 0;
        for (int k = 0; k < jobs.size(); k++) {
            if (jobs.get(k).stage == stage) {
                found++;
            }
        }
        return found;
    }

    private int drainedAndIdle() {
        int found = 0;
        for (int k = 0; k < initiators.size(); k++) {
            Initiator one = initiators.get(k);
            if (one.drained && one.runningJob == NO_JOB) {
                found++;
            }
        }
        return found;
    }

    private int unitsInUse(int what) {
        if (!isIn(what, FIRST_KIND_COUNT, FIRST_KIND_COUNT + KINDS - 1)) {
            return NONE;
        }
        return load.unitsUsed[what - FIRST_KIND_COUNT];
    }

    private static final class Initiator {
        final int[] list;
        boolean drained;
        int runningJob;

        Initiator() {
            list = new int[PLACES];
            for (int place = 0; place < list.length; place++) {
                list[place] = NONE;
            }
            drained = false;
            runningJob = NO_JOB;
        }
    }

    private static final class Job {
        final int number;
        final int inClass;
        final int priority;
        final int name;
        final long arrived;
        final int[] unitsUsed;
        final NumberSet deepNeeds;
        boolean runsAlone;
        int stage;
        long started;

        Job(int number, int inClass, int priority, int name, long arrived) {
            this.number = number;
            this.inClass = inClass;
            this.priority = priority;
            this.name = name;
            this.arrived = arrived;
            unitsUsed = new int[KINDS];
            deepNeeds = new NumberSet();
            runsAlone = false;
            stage = WAITS;
            started = arrived;
        }

        boolean isWaiting() {
            return stage == WAITS || stage == HELD;
        }
    }

    /** What the running jobs take together. */
    private static final class Load {
        final int[] ofClass;
        final int[] unitsUsed;
        final NumberSet names;
        int running;
        boolean aloneRuns;

        Load() {
            ofClass = new int[CLASSES];
            unitsUsed = new int[KINDS];
            names = new NumberSet();
            running = 0;
            aloneRuns = false;
        }

        void take(Job one) {
            ofClass[one.inClass]++;
            for (int kind = 0; kind < KINDS; kind++) {
                unitsUsed[kind] += one.unitsUsed[kind];
            }
            names.put(one.name);
            running++;
            aloneRuns = one.runsAlone;
        }

        /** What ran alone is gone with its only job, and beside others no job ran alone. */
        void release(Job one) {
            ofClass[one.inClass]--;
            for (int kind = 0; kind < KINDS; kind++) {
                unitsUsed[kind] -= one.unitsUsed[kind];
            }
            names.drop(one.name);
            running--;
            aloneRuns = false;
        }
    }

    /** A set of numbers 0 .. 127: wide enough for the numbers and for the names of all jobs. */
    private static final class NumberSet {
        private static final int WORD = 64;
        private long low;
        private long high;

        NumberSet() {
            low = 0;
            high = 0;
        }

        boolean has(int n) {
            long bit = n < WORD ? low & (1L << n) : high & (1L << (n - WORD));
            return bit != 0;
        }

        void put(int n) {
            if (n < WORD) {
                low |= 1L << n;
            } else {
                high |= 1L << (n - WORD);
            }
        }

        void drop(int n) {
            if (n < WORD) {
                low &= ~(1L << n);
            } else {
                high &= ~(1L << (n - WORD));
            }
        }

        void putAll(NumberSet other) {
            low |= other.low;
            high |= other.high;
        }

        boolean isWithin(NumberSet other) {
            return (low & ~other.low) == 0 && (high & ~other.high) == 0;
        }
    }
}
