import java.util.ArrayList;
import java.util.List;
import java.util.TreeSet;

/**
 * Two objects with the same past, one of which had one call more. If that call
 * changed nothing, both answer alike whatever they are asked from then on.
 */
final class Twins {
    private static final int MOST_CALLS = 512;
    private static final long OUT_OF_CALLS = -99;
    private static final long DAY = 1440;

    /** A run of further calls that brings one part of the state to light. */
    private interface Probe {
        void ask(Twins both);
    }

    private final InitiatorRows plain = new InitiatorRows();
    private final InitiatorRows other = new InitiatorRows();
    private int left = MOST_CALLS - 1;
    private long now = 0;
    private String difference = null;

    private Twins(List<Call> past, Call more) {
        for (Call call : past) {
            both(call.method, call.arguments);
        }
        more.answer(other);
    }

    /** What shows that the call changes something after that past; null if nothing does. */
    static String difference(List<Call> past, Call more) {
        for (Probe probe : probes(past, more)) {
            Twins twins = new Twins(past, more);
            probe.ask(twins);
            if (twins.difference != null) {
                return twins.difference;
            }
        }
        return null;
    }

    private static List<Probe> probes(List<Call> past, Call more) {
        TreeSet<Long> numbers = numbersNear(past, more);
        List<Probe> probes = new ArrayList<>();
        probes.add(Twins::readJobs);
        probes.add(Twins::readOrderAndShares);
        probes.add(Twins::askTime);
        probes.add(Twins::askNeeds);
        for (long step : new long[] {0, 1, 97, 480}) {
            probes.add(both -> both.startInRounds(step, false));
            probes.add(both -> both.startInRounds(step, true));
        }
        for (long initiator : near(more, 1, 12)) {
            probes.add(both -> both.askList(initiator));
        }
        for (long c : near(more, 0, 35)) {
            probes.add(both -> both.askLimit(c));
            probes.add(both -> both.askWindow(c, numbers));
        }
        for (long kind = 0; kind < 4; kind++) {
            long k = kind;
            probes.add(both -> both.askUnits(k, numbers));
        }
        probes.add(both -> both.askAgeing(numbers));
        return probes;
    }

    /** The first and the last of a range, and those that the call names. */
    private static TreeSet<Long> near(Call more, long least, long most) {
        TreeSet<Long> found = new TreeSet<>(List.of(least, most));
        for (long n : more.arguments) {
            if (n >= least && n <= most) {
                found.add(n);
            }
        }
        return found;
    }

    private static TreeSet<Long> numbersNear(List<Call> past, Call more) {
        TreeSet<Long> found = new TreeSet<>(List.of(0L, 1L, 999L, 1000L, DAY - 1));
        List<Call> all = new ArrayList<>(past);
        all.add(more);
        for (Call call : all) {
            for (long n : call.arguments) {
                if (!call.method.equals("job") && n >= 0 && n <= DAY) {
                    found.add(Math.max(0, n - 1));
                    found.add(n);
                    found.add(n + 1);
                }
            }
        }
        return found;
    }

    private long both(String method, long... arguments) {
        if (left <= 0) {
            return OUT_OF_CALLS;
        }
        left--;
        Call call = new Call(method, arguments);
        String without = call.answer(plain);
        String with = call.answer(other);
        if (difference == null && !without.equals(with)) {
            difference = call + " answers " + with + " then, and " + without + " without it";
        }
        if (without.startsWith("throws.")) {
            return OUT_OF_CALLS;
        }
        long answer = Long.parseLong(without);
        if (method.equals("job") && answer > 0 || method.equals("next") && answer >= 0) {
            now = arguments[arguments.length - 1];
        }
        return answer;
    }

    private long later(long minutes) {
        return now > Long.MAX_VALUE - minutes ? now : now + minutes;
    }

    private void readJobs() {
        for (int what = -1; what <= 14; what++) {
            both("count", what);
        }
        long jobs = both("count", 1);
        for (long job = 0; job <= jobs + 1; job++) {
            both("state", job);
            both("waited", job);
        }
    }

    private void readOrderAndShares() {
        long jobs = both("count", 1);
        for (long i = 0; i <= jobs; i++) {
            both("order", i);
        }
        for (long c = 0; c < 36; c++) {
            both("share", c, 1000003);
        }
    }

    private void askTime() {
        both("initiator");
        both("next", 1, now - 1);
        both("job", 0, 0, 0, now - 1);
        both("next", 1, now);
        both("job", 0, 0, 0, now);
        both("drain", 1, 0);
        both("next", 1, later(1));
        readJobs();
    }

    private void askNeeds() {
        long jobs = Math.min(both("count", 1), 12);
        for (long job : jobsIn(0, 1)) {
            for (long needed = 1; needed <= jobs; needed++) {
                both("needs", job, needed);
            }
        }
    }

    private void startInRounds(long step, boolean releaseHeld) {
        List<Long> running = new ArrayList<>();
        startOnAll(running);
        free();
        if (releaseHeld) {
            holdAll(0);
        }
        running.clear();
        for (int round = 0; round < 8; round++) {
            startOnAll(running);
            for (long kind = 10; kind < 14; kind++) {
                both("count", kind);
            }
            for (long job : running) {
                both("end", job);
            }
            running.clear();
            both("next", 1, later(step));
        }
    }

    private void startOnAll(List<Long> running) {
        long initiators = both("count", 0);
        for (long initiator = 1; initiator <= initiators; initiator++) {
            long started = both("next", initiator, now);
            if (started > 0) {
                running.add(started);
            }
        }
    }

    /**
     * The jobs in one of two states. What is asked of others would be refused, and
     * if that is what changes something, it would do so in both.
     */
    private List<Long> jobsIn(long one, long two) {
        List<Long> found = new ArrayList<>();
        long jobs = both("count", 1);
        for (long job = 1; job <= jobs; job++) {
            long state = both("state", job);
            if (state == one || state == two) {
                found.add(job);
            }
        }
        return found;
    }

    /** Ends all that runs, so that nothing stands in the way of what is asked next. */
    private void free() {
        for (long job : jobsIn(2, 2)) {
            both("end", job);
        }
    }

    private void holdAll(long on) {
        long from = on == 1 ? 0 : 1;
        for (long job : jobsIn(from, from)) {
            both("hold", job, on);
        }
    }

    private boolean startAndEnd(long initiator, long t) {
        long started = both("next", initiator, t);
        if (started > 0) {
            both("end", started);
        }
        return started > 0;
    }

    private void askList(long initiator) {
        free();
        both("drain", initiator, 0);
        for (long c = 0; c < 36; c++) {
            both("window", c, 0, 0);
            both("limit", c, 40);
            both("job", c, 0, 60 + c, now);
        }
        for (int k = 0; k < 40; k++) {
            startAndEnd(initiator, now);
        }
    }

    private void askLimit(long c) {
        free();
        both("window", c, 0, 0);
        for (long initiator = 1; initiator <= 12; initiator++) {
            both("initiator");
            both("drain", initiator, 0);
            both("cls", initiator, 0, c);
            both("job", c, 15, 79 + initiator, now);
        }
        for (long initiator = 1; initiator <= 12; initiator++) {
            both("next", initiator, now);
        }
    }

    /** The first initiator takes this class alone, and what waits is held. */
    private void clearTheWay(long c) {
        both("initiator");
        free();
        holdAll(1);
        both("drain", 1, 0);
        for (long place = 0; place < 8; place++) {
            both("cls", 1, place, place == 0 ? c : -1);
        }
        both("limit", c, 40);
    }

    private void askWindow(long c, TreeSet<Long> numbers) {
        clearTheWay(c);
        long midnight = later(DAY - now % DAY);
        if (midnight > Long.MAX_VALUE - DAY) {
            return;
        }
        for (long minute : numbers.headSet(DAY)) {
            both("job", c, 15, 99, midnight + minute);
            startAndEnd(1, midnight + minute);
        }
    }

    private void askUnits(long kind, TreeSet<Long> numbers) {
        clearTheWay(0);
        both("window", 0, 0, 0);
        for (long n : numbers.headSet(1001L)) {
            long job = both("job", 0, 15, 99, now);
            both("uses", job, kind, n);
            if (!startAndEnd(1, now)) {
                both("hold", job, 1);
            }
        }
    }

    private void askAgeing(TreeSet<Long> numbers) {
        clearTheWay(0);
        both("cls", 1, 0, -1);
        for (long priority = 0; priority < 16; priority++) {
            both("job", 0, priority, priority, now);
        }
        long start = now;
        for (long n : numbers) {
            both("next", 1, start > Long.MAX_VALUE - n ? start : start + n);
            for (long i = 0; i < 16; i++) {
                both("order", i);
            }
        }
    }
}
