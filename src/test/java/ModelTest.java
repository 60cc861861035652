import java.math.BigInteger;
import java.util.ArrayList;
import java.util.Comparator;
import java.util.HashMap;
import java.util.HashSet;
import java.util.List;
import java.util.Map;
import java.util.Random;
import java.util.Set;

/** Long runs of drawn calls, answered by the class and by a plain model of the document. */
public final class ModelTest {
    private static final int RUNS = 1500;
    private static final int CALLS = 512;
    private static final String[] METHODS = {
        "initiator", "cls", "limit", "window", "job", "needs", "units", "uses", "alone", "hold",
        "next", "end", "age", "drain", "weight", "share", "order", "waited", "state", "count"};
    private static final int[] OFTEN = {
        3, 8, 1, 1, 20, 8, 3, 6, 1, 5,
        30, 15, 1, 3, 3, 4, 6, 4, 3, 6};

    private static int wrong = 0;

    public static void main(String[] args) {
        for (int run = 0; run < RUNS && wrong < 20; run++) {
            play(run);
        }
        System.out.println(wrong == 0 ? "the class and the model agree" : wrong + " runs differ");
        if (wrong != 0) {
            System.exit(1);
        }
    }

    private static void play(int run) {
        Draw draw = new Draw(new Random(run), run % 3);
        InitiatorRows rows = new InitiatorRows();
        Model model = new Model();
        List<String> told = new ArrayList<>();
        for (int k = 0; k < CALLS; k++) {
            String method = METHODS[draw.method()];
            long[] a = draw.arguments(method, model);
            Call call = new Call(method, a);
            String got = call.answer(rows);
            String want = model.answer(method, a);
            told.add(call + " " + got);
            if (!got.equals(want)) {
                wrong++;
                System.out.println("run " + run + ", call " + k + ": due is " + want + " after");
                told.subList(Math.max(0, told.size() - 12), told.size()).forEach(System.out::println);
                return;
            }
        }
    }

    /** Draws calls; the kinds of runs are: small numbers, all numbers, many wrong ones. */
    private static final class Draw {
        private final Random random;
        private final int kind;
        private final int classes;
        private final int names;

        Draw(Random random, int kind) {
            this.random = random;
            this.kind = kind;
            classes = kind == 0 ? 3 : 1 + random.nextInt(36);
            names = kind == 0 ? 5 : 100;
        }

        int method() {
            int all = 0;
            for (int n : OFTEN) {
                all += n;
            }
            int left = random.nextInt(all);
            int k = 0;
            while (left >= OFTEN[k]) {
                left -= OFTEN[k];
                k++;
            }
            return k;
        }

        long[] arguments(String method, Model m) {
            switch (method) {
                case "initiator": return new long[] {};
                case "cls": return new long[] {initiator(m), in(0, 7), in(kind == 0 ? 0 : -1, classes - 1)};
                case "limit": return new long[] {in(0, classes - 1), random.nextInt(3) == 0 ? in(0, 40) : in(1, 12)};
                case "window": return new long[] {in(0, classes - 1), in(0, 1439), in(0, 1439)};
                case "job": return new long[] {in(0, classes - 1), in(0, 15), in(0, names - 1), time(m)};
                case "needs": return new long[] {job(m), job(m)};
                case "units": return new long[] {in(0, 3), in(0, 1000)};
                case "uses": return new long[] {job(m), in(0, 3), random.nextInt(3) == 0 ? in(0, 1000) : in(0, 300)};
                case "alone": return new long[] {job(m)};
                case "hold": return new long[] {job(m), random.nextInt(2)};
                case "next": return new long[] {initiator(m), time(m)};
                case "end": return new long[] {random.nextInt(4) == 0 ? job(m) : running(m)};
                case "age": return new long[] {random.nextInt(8) == 0 ? random.nextLong() : in(0, 50), in(0, 15)};
                case "drain": return new long[] {initiator(m), random.nextInt(2)};
                case "weight": return new long[] {in(0, 35), random.nextInt(3) == 0 ? in(0, 1000) : in(0, 5)};
                case "share": return new long[] {in(0, 35), random.nextInt(2) == 0 ? random.nextLong() : in(0, 99)};
                case "order": return new long[] {in(0, Math.max(1, m.jobs.size()))};
                case "waited":
                case "state": return new long[] {job(m)};
                case "count": return new long[] {in(0, 14)};
                default: throw new AssertionError(method);
            }
        }

        private long in(int least, int most) {
            if (random.nextInt(kind == 2 ? 10 : 100) == 0) {
                int[] odd = {least - 1, most + 1, Integer.MIN_VALUE, Integer.MAX_VALUE, random.nextInt()};
                return odd[random.nextInt(odd.length)];
            }
            return least + random.nextInt(most - least + 1);
        }

        private long initiator(Model m) {
            return in(1, Math.max(1, m.initiators.size()));
        }

        private long job(Model m) {
            int all = Math.max(1, m.jobs.size());
            return random.nextInt(2) == 0 ? in(1, all) : in(Math.max(1, all - 6), all);
        }

        private long running(Model m) {
            List<Integer> found = new ArrayList<>();
            for (Model.Starter s : m.initiators) {
                if (s.runs != null) {
                    found.add(s.runs.number);
                }
            }
            return found.isEmpty() ? job(m) : found.get(random.nextInt(found.size()));
        }

        private long time(Model m) {
            if (random.nextInt(kind == 2 ? 20 : 200) == 0) {
                return m.time - 1 - random.nextInt(100);
            }
            if (kind == 2 && random.nextInt(60) == 0) {
                return random.nextLong() >>> random.nextInt(8);
            }
            return m.time + random.nextInt(kind == 1 ? 100 : 20);
        }
    }

    /** The document in its own order of words, with nothing kept that can be asked anew. */
    private static final class Model {
        static final class Work {
            int number;
            long cls;
            long priority;
            long name;
            long arrived;
            long ran;
            boolean held;
            boolean alone;
            String is = "waits";
            Map<Long, Long> uses = new HashMap<>();
            Set<Work> needs = new HashSet<>();
        }

        static final class Starter {
            Map<Long, Long> list = new HashMap<>();
            boolean drained;
            Work runs;
        }

        final List<Starter> initiators = new ArrayList<>();
        final List<Work> jobs = new ArrayList<>();
        final Map<Long, Long> limits = new HashMap<>();
        final Map<Long, long[]> windows = new HashMap<>();
        final Map<Long, Long> weights = new HashMap<>();
        final Map<Long, Long> units = new HashMap<>();
        long time = 0;
        long per = 0;
        long most = 0;

        String answer(String method, long[] a) {
            if (method.equals("share")) {
                return share(a[0], a[1]);
            }
            return String.valueOf(number(method, a));
        }

        private long number(String method, long[] a) {
            switch (method) {
                case "initiator":
                    if (initiators.size() == 12) {
                        return -1;
                    }
                    initiators.add(new Starter());
                    return initiators.size();
                case "cls":
                    if (starter(a[0]) == null) {
                        return -2;
                    }
                    if (out(a[1], 7) || a[2] != -1 && out(a[2], 35)) {
                        return -4;
                    }
                    starter(a[0]).list.put(a[1], a[2]);
                    return 1;
                case "limit":
                    return put(limits, a[0], 35, a[1], 40);
                case "window":
                    if (out(a[0], 35) || out(a[1], 1439) || out(a[2], 1439)) {
                        return -4;
                    }
                    windows.put(a[0], new long[] {a[1], a[2]});
                    return 1;
                case "job":
                    return arrive(a);
                case "units":
                    return put(units, a[0], 3, a[1], 1000);
                case "weight":
                    return put(weights, a[0], 35, a[1], 1000);
                case "needs":
                case "uses":
                case "alone":
                case "hold":
                case "end":
                    return onJob(method, a);
                case "next":
                    return next(starter(a[0]), a[1]);
                case "age":
                    if (a[0] < 0 || out(a[1], 15)) {
                        return -4;
                    }
                    per = a[0];
                    most = a[1];
                    return 1;
                case "drain":
                    if (starter(a[0]) == null) {
                        return -2;
                    }
                    boolean was = starter(a[0]).drained;
                    starter(a[0]).drained = a[1] != 0;
                    return was == (a[1] != 0) ? 0 : 1;
                case "order":
                    List<Work> row = inOrder();
                    return a[0] >= 0 && a[0] < row.size() ? row.get((int) a[0]).number : -1;
                case "waited":
                    Work w = work(a[0]);
                    return w == null ? -1 : w.is.equals("waits") ? time - w.arrived : w.ran - w.arrived;
                case "state":
                    Work s = work(a[0]);
                    return s == null ? -1 : s.is.equals("waits") ? (s.held ? 1 : 0) : s.is.equals("runs") ? 2 : 3;
                case "count":
                    return count(a[0]);
                default:
                    throw new AssertionError(method);
            }
        }

        private static boolean out(long n, long top) {
            return n < 0 || n > top;
        }

        private static long put(Map<Long, Long> into, long key, long topKey, long n, long top) {
            if (out(key, topKey) || out(n, top)) {
                return -4;
            }
            into.put(key, n);
            return 1;
        }

        private Starter starter(long n) {
            return n >= 1 && n <= initiators.size() ? initiators.get((int) n - 1) : null;
        }

        private Work work(long n) {
            return n >= 1 && n <= jobs.size() ? jobs.get((int) n - 1) : null;
        }

        private long arrive(long[] a) {
            if (out(a[0], 35) || out(a[1], 15) || out(a[2], 99) || a[3] < time) {
                return -4;
            }
            if (jobs.size() == 100) {
                return -1;
            }
            Work w = new Work();
            w.number = jobs.size() + 1;
            w.cls = a[0];
            w.priority = a[1];
            w.name = a[2];
            w.arrived = a[3];
            time = a[3];
            jobs.add(w);
            return w.number;
        }

        private long onJob(String method, long[] a) {
            Work w = work(a[0]);
            if (w == null || method.equals("needs") && work(a[1]) == null) {
                return -2;
            }
            if (method.equals("uses") && (out(a[1], 3) || out(a[2], 1000))) {
                return -4;
            }
            if (!w.is.equals(method.equals("end") ? "runs" : "waits")) {
                return -5;
            }
            switch (method) {
                case "needs":
                    if (reaches(work(a[1]), w, new HashSet<>())) {
                        return 0;
                    }
                    w.needs.add(work(a[1]));
                    return 1;
                case "uses":
                    w.uses.put(a[1], a[2]);
                    return 1;
                case "alone":
                    w.alone = true;
                    return 1;
                case "hold":
                    boolean was = w.held;
                    w.held = a[1] != 0;
                    return was == w.held ? 0 : 1;
                default:
                    w.is = "ended";
                    for (Starter s : initiators) {
                        s.runs = s.runs == w ? null : s.runs;
                    }
                    return 1;
            }
        }

        private static boolean reaches(Work from, Work to, Set<Work> seen) {
            if (from == to) {
                return true;
            }
            if (!seen.add(from)) {
                return false;
            }
            for (Work w : from.needs) {
                if (reaches(w, to, seen)) {
                    return true;
                }
            }
            return false;
        }

        private long next(Starter s, long t) {
            if (s == null) {
                return -2;
            }
            if (t < time) {
                return -4;
            }
            if (s.drained || s.runs != null) {
                return -5;
            }
            time = t;
            for (long place = 0; place < 8; place++) {
                for (Work w : inOrder()) {
                    if (w.cls == s.list.getOrDefault(place, -1L) && mayStart(w)) {
                        w.is = "runs";
                        w.ran = time;
                        s.runs = w;
                        return w.number;
                    }
                }
            }
            return 0;
        }

        private List<Work> running() {
            List<Work> found = new ArrayList<>();
            for (Work w : jobs) {
                if (w.is.equals("runs")) {
                    found.add(w);
                }
            }
            return found;
        }

        private boolean mayStart(Work w) {
            List<Work> running = running();
            long same = 0;
            for (Work r : running) {
                same += r.cls == w.cls ? 1 : 0;
                if (r.name == w.name || r.alone || w.alone) {
                    return false;
                }
            }
            for (Work n : w.needs) {
                if (!n.is.equals("ended")) {
                    return false;
                }
            }
            for (long kind = 0; kind < 4; kind++) {
                if (w.uses.getOrDefault(kind, 0L) + inUse(kind) > units.getOrDefault(kind, 0L)) {
                    return false;
                }
            }
            return !w.held && same < limits.getOrDefault(w.cls, 40L) && isOpen(w.cls);
        }

        private boolean isOpen(long c) {
            long[] window = windows.getOrDefault(c, new long[] {0, 0});
            long minute = window[0];
            do {
                if (minute == time % 1440) {
                    return true;
                }
                minute = (minute + 1) % 1440;
            } while (minute != window[1]);
            return false;
        }

        private long inUse(long kind) {
            long sum = 0;
            for (Work r : running()) {
                sum += r.uses.getOrDefault(kind, 0L);
            }
            return sum;
        }

        private BigInteger priorityNow(Work w) {
            BigInteger own = BigInteger.valueOf(w.priority);
            if (per == 0) {
                return own;
            }
            BigInteger grown = own.add(BigInteger.valueOf((time - w.arrived) / per));
            return own.max(grown.min(BigInteger.valueOf(most)));
        }

        private List<Work> inOrder() {
            List<Work> found = new ArrayList<>();
            for (Work w : jobs) {
                if (w.is.equals("waits") && !w.held) {
                    found.add(w);
                }
            }
            found.sort(Comparator.comparing(this::priorityNow).reversed());
            return found;
        }

        private long count(long what) {
            long waiting = 0;
            long held = 0;
            for (Work w : jobs) {
                waiting += w.is.equals("waits") ? 1 : 0;
                held += w.is.equals("waits") && w.held ? 1 : 0;
            }
            long idle = 0;
            for (Starter s : initiators) {
                idle += s.drained && s.runs == null ? 1 : 0;
            }
            long[] told = {initiators.size(), jobs.size(), waiting, held, running().size(), idle};
            if (!out(what, 5)) {
                return told[(int) what];
            }
            return what >= 10 && what <= 13 ? inUse(what - 10) : -1;
        }

        private String share(long c, long all) {
            if (out(c, 35) || all < 0) {
                return "-1";
            }
            BigInteger sum = BigInteger.ZERO;
            for (long w : weights.values()) {
                sum = sum.add(BigInteger.valueOf(w));
            }
            if (sum.signum() == 0) {
                return "throws.ArithmeticException";
            }
            BigInteger[] shares = new BigInteger[36];
            BigInteger[] remainders = new BigInteger[36];
            BigInteger left = BigInteger.valueOf(all);
            for (int k = 0; k < 36; k++) {
                BigInteger weight = BigInteger.valueOf(weights.getOrDefault((long) k, 0L));
                BigInteger[] both = BigInteger.valueOf(all).multiply(weight).divideAndRemainder(sum);
                shares[k] = both[0];
                remainders[k] = both[1];
                left = left.subtract(both[0]);
            }
            for (; left.signum() > 0; left = left.subtract(BigInteger.ONE)) {
                int best = 0;
                for (int k = 1; k < 36; k++) {
                    best = remainders[k].compareTo(remainders[best]) > 0 ? k : best;
                }
                shares[best] = shares[best].add(BigInteger.ONE);
                remainders[best] = BigInteger.valueOf(-1);
            }
            return shares[(int) c].toString();
        }
    }
}
