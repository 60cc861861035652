import java.math.BigInteger;
import java.util.Arrays;

/** The document's promises 1 to 21, sentence by sentence: each bound, both sides of it, each refusal. */
public final class BoundsTest {
    private static final long LONG_MAX = Long.MAX_VALUE;

    public static void main(String[] args) {
        newObject();
        noAgeing();
        initiatorNumber();
        initiatorNone();
        clsPlaces();
        clsClasses();
        limitNumbers();
        windowFromOn();
        windowOverMidnight();
        windowAllDay();
        windowMinutes();
        windowEveryMinute();
        jobTime();
        jobPriority();
        jobName();
        jobRefused();
        needsAnother();
        needsItself();
        needsAtAnyDepth();
        needsNotRefusedAround();
        needsState();
        unitsNumbers();
        unitsRunningGoOn();
        usesNumbers();
        usesWhileItRuns();
        usesState();
        aloneWaiting();
        aloneState();
        holdOrNotAnyMore();
        holdWasSo();
        holdState();
        nextTimeIs();
        nextNumber();
        nextNoneMayStart();
        nextDrained();
        nextRunsOne();
        endRunning();
        endState();
        ageNone();
        ageNumbers();
        drainOrNotAnyMore();
        drainJobGoesOn();
        weightNumbers();
        shareRoundedDown();
        shareGreatestRemainders();
        shareLesserClass();
        shareOfAll();
        shareWithoutWrap();
        shareNone();
        shareThrows();
        orderNotHeld();
        orderByPriorityThenArrival();
        orderNone();
        waitedTillItRan();
        waitedTillNow();
        waitedNone();
        stateNone();
        countInitiatorsAndJobs();
        countWaiting();
        countRunning();
        countDrained();
        countUnits();
        countNone();
        Sentence.end();
    }

    // Promise 1

    private static void newObject() {
        Sentence s = Sentence.of("No initiators, no jobs");
        for (int what = 0; what <= 5; what++) {
            s.due("count(" + what + ")", 0);
        }
        s.rows("count(10) -> 0", "count(13) -> 0", "order(0) -> -1", "state(1) -> -1", "waited(1) -> -1",
                "next(1, 0) -> -2", "drain(1, true) -> -2", "cls(1, 0, 0) -> -2", "end(1) -> -2", "hold(1, true) -> -2",
                "needs(1, 1) -> -2", "uses(1, 0, 0) -> -2", "alone(1) -> -2", "initiator() -> 1",
                "job(0, 0, 0, 0) -> 1", "count(0) -> 1", "count(1) -> 1");
        s.anew().rows("count(0) -> 0", "count(1) -> 0");
    }

    private static void noAgeing() {
        Sentence s = Sentence.of("no ageing");
        s.anew(1, 0).rows("job(0, 0, 0, 0) -> 1", "job(0, 1, 1, LMAX) -> 2", "order(0) -> 2", "order(1) -> 1",
                "next(1, LMAX) -> 2");
    }

    // Promise 2

    private static void initiatorNumber() {
        Sentence s = Sentence.of("A new initiator: its number");
        for (int n = 1; n <= 12; n++) {
            s.due("initiator()", n).due("drain(" + n + ", true)", 1).due("drain(" + (n + 1) + ", true)", -2);
        }
        s.due("count(5)", 12);
    }

    private static void initiatorNone() {
        Sentence s = Sentence.of("NONE when there are 12");
        s.anew(11, 0).jobs(1, 0, 0).rows("initiator() -> 12", "initiator() -> -1", "cls(13, 0, 0) -> -2",
                "drain(12, true) -> 1", "initiator() -> -1", "count(0) -> 12", "next(12, 0) -> -5", "next(11, 0) -> 1",
                "initiator() -> -1");
    }

    // Promise 3

    private static void clsPlaces() {
        Sentence s = Sentence.of("Place order (0 .. 7) of an initiator's list");
        s.anew(1, 0).jobs(1, 5, 0).due("cls(1, 0, NONE)", 1);
        for (String outside : new String[] {"-1", "8", "-8", "9", "MIN", "MAX"}) {
            s.due("cls(1, " + outside + ", 5)", -4).due("cls(1, " + outside + ", NONE)", -4);
        }
        s.due("next(1, 0)", 0);
        for (int place = 0; place < 8; place++) {
            s.due("cls(1, " + place + ", 5)", 1).due("next(1, 0)", place + 1);
            s.due("end(" + (place + 1) + ")", 1).due("cls(1, " + place + ", NONE)", 1).jobs(1, 5, 0);
            s.due("next(1, 0)", 0);
        }
    }

    private static void clsClasses() {
        Sentence s = Sentence.of("has class c, or none (NONE): 1; or refused");
        s.anew(1, 3).jobs(1, 3, 0);
        for (String outside : new String[] {"-2", "36", "-3", "37", "MIN", "MAX"}) {
            s.due("cls(1, 0, " + outside + ")", -4);
        }
        s.rows("next(1, 0) -> 1", "end(1) -> 1", "job(3, 0, 0, 0) -> 2", "cls(1, 0, NONE) -> 1", "cls(1, 0, NONE) -> 1",
                "next(1, 0) -> 0", "cls(1, 0, 36) -> -4", "next(1, 0) -> 0");
        for (int c = 0; c < 36; c++) {
            s.anew(1, c).jobs(1, c, 0).due("job(" + (c + 1) % 36 + ", 15, 9, 0)", 2);
            s.due("next(1, 0)", 1).due("end(1)", 1).due("next(1, 0)", 0);
        }
        // What runs goes on when its class leaves the list.
        s.anew(1, 0).jobs(1, 0, 0).rows("next(1, 0) -> 1", "cls(1, 0, NONE) -> 1", "state(1) -> 2", "end(1) -> 1");
    }

    // Promise 4

    private static void limitNumbers() {
        Sentence s = Sentence.of("A class's limit becomes n (0 .. 40): 1; or refused");
        s.anew(3, 0).jobs(3, 0, 0).due("limit(0, 2)", 1);
        for (String outside : new String[] {"-1", "41", "-40", "42", "MIN", "MAX"}) {
            s.due("limit(0, " + outside + ")", -4);
        }
        s.rows("next(1, 0) -> 1", "next(2, 0) -> 2", "next(3, 0) -> 0", "limit(0, 41) -> -4", "next(3, 0) -> 0");
        for (int n = 0; n <= 40; n++) {
            s.due("limit(0, " + n + ")", 1);
        }
        s.rows("limit(0, 0) -> 1", "count(4) -> 2", "next(3, 0) -> 0", "limit(0, 40) -> 1", "next(3, 0) -> 3");
        for (int n : new int[] {13, 39, 40}) {
            s.anew(12, 0).jobs(12, 0, 0).due("limit(0, " + n + ")", 1);
            for (int k = 1; k <= 12; k++) {
                s.due("next(" + k + ", 0)", k);
            }
        }
    }

    // Promise 5

    private static void windowFromOn() {
        Sentence s = Sentence.of("from minute from on till ahead of minute to");
        opens(s, 480, 600, 479, 0);
        opens(s, 480, 600, 480, 1);
        opens(s, 480, 600, 481, 1);
        opens(s, 480, 600, 599, 1);
        opens(s, 480, 600, 600, 0);
        opens(s, 480, 600, 601, 0);
        opens(s, 480, 600, 1440 + 479, 0);
        opens(s, 480, 600, 1440 + 480, 1);
        opens(s, 0, 1439, 0, 1);
        opens(s, 0, 1439, 1438, 1);
        opens(s, 0, 1439, 1439, 0);
    }

    private static void windowOverMidnight() {
        Sentence s = Sentence.of("over midnight if from is greater");
        opens(s, 1380, 60, 1379, 0);
        opens(s, 1380, 60, 1380, 1);
        opens(s, 1380, 60, 1439, 1);
        opens(s, 1380, 60, 1440, 1);
        opens(s, 1380, 60, 0, 1);
        opens(s, 1380, 60, 59, 1);
        opens(s, 1380, 60, 60, 0);
        opens(s, 1380, 60, 61, 0);
        opens(s, 1439, 1438, 1438, 0);
        opens(s, 1439, 1438, 1437, 1);
        opens(s, 1, 0, 0, 0);
        opens(s, 1, 0, 1, 1);
        opens(s, 1, 0, 1439, 1);
        opens(s, 1, 0, 1440, 0);
    }

    private static void windowAllDay() {
        Sentence s = Sentence.of("all day if they are the same");
        for (int same : new int[] {0, 1, 720, 1438, 1439}) {
            for (int minute : new int[] {0, 1, 719, 720, 721, 1437, 1438, 1439, 1440}) {
                opens(s, same, same, minute, 1);
            }
        }
        s.anew(1, 0).jobs(1, 0, 0).rows("window(0, 5, 6) -> 1", "next(1, 7) -> 0", "window(0, 9, 9) -> 1",
                "next(1, 7) -> 1");
    }

    private static void windowMinutes() {
        Sentence s = Sentence.of("(both 0 .. 1439): 1; or refused");
        s.anew(1, 0).jobs(1, 0, 0).due("window(0, 5, 6)", 1);
        for (String outside : new String[] {"-1", "1440", "-1440", "1441", "MIN", "MAX"}) {
            s.due("window(0, " + outside + ", 0)", -4).due("window(0, 0, " + outside + ")", -4);
            s.due("window(0, " + outside + ", " + outside + ")", -4);
        }
        s.rows("window(0, 0, 1439) -> 1", "window(0, 1439, 0) -> 1", "window(0, 1439, 1439) -> 1",
                "window(35, 0, 0) -> 1", "window(0, 5, 6) -> 1", "window(1, 8, 9) -> 1", "next(1, 4) -> 0",
                "window(0, 4, 1440) -> -4", "next(1, 4) -> 0", "next(1, 5) -> 1");
    }

    private static void windowEveryMinute() {
        Sentence s = Sentence.of("A class's window, at every minute of the day");
        int[] ends = {0, 1, 719, 720, 1438, 1439};
        for (int from : ends) {
            for (int to : ends) {
                boolean[] open = new boolean[1440];
                int minute = from;
                do {
                    open[minute] = true;
                    minute = (minute + 1) % 1440;
                } while (minute != to);
                for (int m = 0; m < 1440; m++) {
                    opens(s, from, to, m, open[m] ? 1 : 0);
                }
            }
        }
    }

    private static void opens(Sentence s, int from, int to, long t, int due) {
        s.anew().rows("initiator() -> 1", "cls(1, 0, 9) -> 1", "job(9, 0, 0, 0) -> 1");
        s.due("window(9, " + from + ", " + to + ")", 1).due("next(1, " + t + ")", due);
    }

    // Promise 6

    private static void jobTime() {
        Sentence s = Sentence.of("A job arrives at time t (which is the time then)");
        s.anew(1, 1).rows("job(0, 0, 0, 0) -> 1", "job(0, 0, 0, 0) -> 2", "waited(1) -> 0", "job(0, 0, 0, 1) -> 3",
                "waited(1) -> 1", "waited(3) -> 0", "next(1, 0) -> -4", "job(0, 0, 0, 0) -> -4", "waited(1) -> 1",
                "next(1, 5) -> 0", "job(0, 0, 0, 4) -> -4", "job(0, 0, 0, 5) -> 4", "waited(4) -> 0",
                "job(0, 0, 0, LMAX) -> 5", "waited(1) -> 9223372036854775807", "waited(5) -> 0",
                "job(0, 0, 0, 9223372036854775806) -> -4", "job(0, 0, 0, LMAX) -> 6");
    }

    private static void jobPriority() {
        Sentence s = Sentence.of("a priority 0 .. 15");
        for (String outside : new String[] {"-1", "16", "-15", "17", "MIN", "MAX"}) {
            s.due("job(0, " + outside + ", 0, 3)", -4);
        }
        for (int priority = 0; priority < 16; priority++) {
            s.due("job(0, " + priority + ", 0, 0)", priority + 1);
        }
        s.rows("order(0) -> 16", "order(15) -> 1", "order(16) -> -1");
    }

    private static void jobName() {
        Sentence s = Sentence.of("a name 0 .. 99");
        for (String outside : new String[] {"-1", "100", "-99", "101", "MIN", "MAX"}) {
            s.due("job(0, 0, " + outside + ", 3)", -4);
        }
        for (int name = 0; name < 100; name++) {
            s.due("job(0, 0, " + name + ", 0)", name + 1);
        }
    }

    private static void jobRefused() {
        Sentence s = Sentence.of("its number; or refused");
        s.anew(1, 0).rows("job(-1, 0, 0, 7) -> -4", "job(36, 0, 0, 7) -> -4", "job(0, 0, 0, -1) -> -4",
                "job(36, 16, 100, -1) -> -4", "count(1) -> 0", "job(0, 0, 0, 6) -> 1", "job(36, 0, 0, 9) -> -4",
                "waited(1) -> 0", "next(1, 6) -> 1");
        s.anew(1, 0).jobs(99, 0, 3).rows("job(0, 0, 99, 4) -> 100", "job(0, 0, 0, 5) -> -1", "waited(1) -> 1",
                "next(1, 4) -> 1", "job(0, 0, 0, LMAX) -> -1", "waited(2) -> 1", "next(1, 3) -> -4");
    }

    // Promise 7

    private static void needsAnother() {
        Sentence s = Sentence.of("A waiting job needs another one to have ended: 1");
        s.anew(2, 0).jobs(5, 0, 0);
        s.rows("needs(1, 2) -> 1", "needs(1, 2) -> 1", "next(1, 0) -> 2", "needs(3, 2) -> 1", "next(2, 0) -> 4",
                "end(4) -> 1", "needs(5, 4) -> 1", "next(2, 0) -> 5", "end(5) -> 1", "next(2, 0) -> 0", "end(2) -> 1",
                "next(2, 0) -> 1", "next(1, 0) -> 3");
        // A held one may need and be needed.
        s.anew(1, 0).jobs(2, 0, 0).rows("hold(1, true) -> 1", "needs(1, 2) -> 1", "hold(1, false) -> 1",
                "hold(2, true) -> 1", "next(1, 0) -> 0", "hold(2, false) -> 1", "next(1, 0) -> 2", "next(1, 0) -> -5",
                "end(2) -> 1", "next(1, 0) -> 1");
    }

    private static void needsItself() {
        Sentence s = Sentence.of("0, changing nothing, when that is itself");
        s.anew(1, 0).jobs(100, 0, 0);
        s.rows("needs(1, 1) -> 0", "needs(64, 64) -> 0", "needs(100, 100) -> 0", "needs(100, 99) -> 1",
                "hold(2, true) -> 1", "needs(2, 2) -> 0", "next(1, 0) -> 1");
    }

    private static void needsAtAnyDepth() {
        Sentence s = Sentence.of("or needs it, at any depth");
        for (int depth : new int[] {1, 2, 3, 31, 32, 33, 62, 63, 64, 65, 98, 99}) {
            s.anew(1, 0).jobs(depth + 1, 0, 0);
            for (int n = depth; n >= 1; n--) {
                s.due("needs(" + (n + 1) + ", " + n + ")", 1);
            }
            s.due("needs(1, " + (depth + 1) + ")", 0).due("needs(1, 2)", 0);
            s.due("needs(" + (depth + 1) + ", 1)", 1).due("next(1, 0)", 1);
        }
        // The same from the last number to the first, and joined in the middle last.
        s.anew(1, 0).jobs(100, 0, 0);
        for (int n = 1; n < 100; n++) {
            if (n != 50) {
                s.due("needs(" + n + ", " + (n + 1) + ")", 1);
            }
        }
        s.rows("needs(100, 51) -> 0", "needs(50, 1) -> 0", "needs(50, 51) -> 1", "needs(100, 1) -> 0",
                "needs(51, 50) -> 0", "needs(100, 50) -> 0", "needs(51, 1) -> 0", "needs(1, 100) -> 1",
                "next(1, 0) -> 100");
    }

    private static void needsNotRefusedAround() {
        Sentence s = Sentence.of("0 only when it needs it: two ways to one are no circle");
        s.anew(1, 0).jobs(6, 0, 0).rows("needs(4, 2) -> 1", "needs(4, 3) -> 1", "needs(2, 1) -> 1", "needs(3, 1) -> 1",
                "needs(4, 1) -> 1", "needs(3, 2) -> 1", "needs(2, 3) -> 0", "needs(1, 5) -> 1", "needs(5, 4) -> 0",
                "needs(5, 6) -> 1", "needs(6, 4) -> 0", "needs(6, 1) -> 0", "needs(2, 6) -> 1", "next(1, 0) -> 6",
                "end(6) -> 1", "next(1, 0) -> 5", "end(5) -> 1", "next(1, 0) -> 1", "end(1) -> 1", "next(1, 0) -> 2",
                "end(2) -> 1", "next(1, 0) -> 3", "end(3) -> 1", "next(1, 0) -> 4");
        // A need that was answered with 0 is not there, and neither are those behind it.
        s.anew(1, 0).jobs(3, 0, 0).rows("needs(2, 1) -> 1", "needs(1, 2) -> 0", "needs(3, 2) -> 1", "needs(1, 3) -> 0",
                "next(1, 0) -> 1", "end(1) -> 1", "next(1, 0) -> 2", "end(2) -> 1", "next(1, 0) -> 3");
    }

    private static void needsState() {
        Sentence s = Sentence.of("needs: -5 when it doesn't wait; or refused");
        s.anew(1, 0).jobs(3, 0, 0).rows("next(1, 0) -> 1", "needs(1, 2) -> -5", "needs(1, 1) -> -5", "needs(2, 1) -> 1",
                "needs(1, 2) -> -5", "end(1) -> 1", "needs(1, 2) -> -5", "needs(1, 1) -> -5", "needs(3, 1) -> 1",
                "needs(0, 2) -> -2", "needs(4, 2) -> -2", "needs(2, 0) -> -2", "needs(2, 4) -> -2",
                "needs(2, -1) -> -2", "needs(MIN, 2) -> -2", "needs(2, MAX) -> -2", "next(1, 0) -> 2");
    }

    // Promise 8

    private static void unitsNumbers() {
        Sentence s = Sentence.of("There are n (0 .. 1000) units of a kind: 1; or refused");
        s.anew(1, 0).jobs(1, 0, 0).rows("units(0, 500) -> 1", "uses(1, 0, 501) -> 1");
        for (String outside : new String[] {"-1", "1001", "-1000", "1002", "MIN", "MAX"}) {
            s.due("units(0, " + outside + ")", -4);
        }
        for (String outside : new String[] {"-1", "4", "MIN", "MAX"}) {
            s.due("units(" + outside + ", 1000)", -4);
        }
        s.rows("next(1, 0) -> 0", "uses(1, 0, 500) -> 1", "next(1, 0) -> 1");
        for (int kind = 0; kind < 4; kind++) {
            for (int n : new int[] {0, 1, 2, 499, 999, 1000}) {
                s.anew(1, 0).jobs(1, 0, 0).due("units(" + kind + ", " + n + ")", 1);
                if (n < 1000) {
                    s.due("uses(1, " + kind + ", " + (n + 1) + ")", 1).due("next(1, 0)", 0);
                }
                s.due("uses(1, " + kind + ", " + n + ")", 1).due("next(1, 0)", 1);
                s.due("count(" + (10 + kind) + ")", n);
            }
        }
    }

    private static void unitsRunningGoOn() {
        Sentence s = Sentence.of("(Running jobs go on.)");
        s.anew(2, 0).jobs(3, 0, 0).rows("units(1, 10) -> 1", "uses(1, 1, 10) -> 1", "uses(2, 1, 1) -> 1",
                "next(1, 0) -> 1", "units(1, 0) -> 1", "state(1) -> 2", "count(11) -> 10", "next(2, 0) -> 0",
                "units(1, 10) -> 1", "hold(2, true) -> 1", "next(2, 0) -> 3", "end(3) -> 1", "hold(2, false) -> 1",
                "next(2, 0) -> 0", "units(1, 11) -> 1", "next(2, 0) -> 2", "count(11) -> 11", "units(1, 0) -> 1",
                "end(1) -> 1", "count(11) -> 1", "end(2) -> 1", "count(11) -> 0");
    }

    // Promise 9

    private static void usesNumbers() {
        Sentence s = Sentence.of("A waiting job uses n (0 .. 1000) units of a kind: 1");
        s.anew(1, 0).jobs(1, 0, 0).rows("units(0, 1000) -> 1", "uses(1, 0, 7) -> 1");
        for (String outside : new String[] {"-1", "1001", "-1000", "1002", "MIN", "MAX"}) {
            s.due("uses(1, 0, " + outside + ")", -4);
        }
        for (String outside : new String[] {"-1", "4", "MIN", "MAX"}) {
            s.due("uses(1, " + outside + ", 1)", -4);
        }
        s.rows("next(1, 0) -> 1", "count(10) -> 7", "count(11) -> 0");
        for (int n : new int[] {0, 1, 999, 1000}) {
            s.anew(1, 0).jobs(1, 0, 0).rows("units(3, 1000) -> 1", "uses(1, 3, 500) -> 1");
            s.due("uses(1, 3, " + n + ")", 1).due("next(1, 0)", 1).due("count(13)", n);
        }
        s.anew(1, 0).jobs(1, 0, 0).rows("units(0, 5) -> 1", "hold(1, true) -> 1", "uses(1, 0, 6) -> 1",
                "hold(1, false) -> 1", "next(1, 0) -> 0", "uses(1, 0, 5) -> 1", "next(1, 0) -> 1");
    }

    private static void usesWhileItRuns() {
        Sentence s = Sentence.of("while it runs");
        s.anew(2, 0).jobs(2, 0, 0).rows("units(0, 5) -> 1", "uses(1, 0, 3) -> 1", "uses(2, 0, 3) -> 1",
                "count(10) -> 0", "next(1, 0) -> 1", "count(10) -> 3", "next(2, 0) -> 0", "end(1) -> 1",
                "count(10) -> 0", "next(2, 0) -> 2", "count(10) -> 3", "end(2) -> 1", "count(10) -> 0");
    }

    private static void usesState() {
        Sentence s = Sentence.of("uses: -5 when it doesn't wait; or refused");
        s.anew(1, 0).jobs(2, 0, 0).rows("units(0, 5) -> 1", "next(1, 0) -> 1", "uses(1, 0, 1) -> -5",
                "count(10) -> 0", "end(1) -> 1", "uses(1, 0, 1) -> -5", "count(10) -> 0", "uses(0, 0, 1) -> -2",
                "uses(3, 0, 1) -> -2", "uses(2, 0, 1) -> 1", "next(1, 0) -> 2", "count(10) -> 1");
    }

    // Promise 10

    private static void aloneWaiting() {
        Sentence s = Sentence.of("A waiting job is to run alone: 1");
        s.anew(2, 0).jobs(3, 0, 0).rows("alone(2) -> 1", "alone(2) -> 1", "next(1, 0) -> 1", "next(2, 0) -> 3",
                "end(1) -> 1", "next(1, 0) -> 0", "end(3) -> 1", "next(1, 0) -> 2", "job(0, 0, 9, 0) -> 4",
                "hold(4, true) -> 1", "alone(4) -> 1", "hold(4, false) -> 1", "next(2, 0) -> 0", "end(2) -> 1",
                "next(2, 0) -> 4", "job(0, 0, 8, 0) -> 5", "next(1, 0) -> 0");
    }

    private static void aloneState() {
        Sentence s = Sentence.of("alone: -5 when it doesn't wait; or refused");
        s.anew(2, 0).jobs(2, 0, 0).rows("next(1, 0) -> 1", "alone(1) -> -5", "next(2, 0) -> 2", "end(1) -> 1",
                "alone(1) -> -5", "alone(2) -> -5", "alone(0) -> -2", "alone(3) -> -2", "alone(-1) -> -2",
                "alone(MIN) -> -2", "alone(MAX) -> -2", "job(0, 0, 5, 0) -> 3", "next(1, 0) -> 3");
    }

    // Promise 11

    private static void holdOrNotAnyMore() {
        Sentence s = Sentence.of("A waiting job is held, or not any more: 1");
        s.anew(1, 0).jobs(1, 0, 0).rows("hold(1, true) -> 1", "state(1) -> 1", "count(3) -> 1", "order(0) -> -1",
                "next(1, 0) -> 0", "hold(1, false) -> 1", "state(1) -> 0", "count(3) -> 0", "order(0) -> 1",
                "hold(1, true) -> 1", "hold(1, false) -> 1", "next(1, 0) -> 1");
    }

    private static void holdWasSo() {
        Sentence s = Sentence.of("hold: 0 when it was so");
        s.anew(1, 0).jobs(2, 0, 0).rows("hold(1, false) -> 0", "state(1) -> 0", "hold(1, true) -> 1",
                "hold(1, true) -> 0", "state(1) -> 1", "hold(2, false) -> 0", "hold(1, false) -> 1",
                "hold(1, false) -> 0", "state(1) -> 0");
    }

    private static void holdState() {
        Sentence s = Sentence.of("hold: -5 when it doesn't wait; or refused");
        s.anew(1, 0).jobs(1, 0, 0).rows("next(1, 0) -> 1", "hold(1, true) -> -5", "hold(1, false) -> -5",
                "state(1) -> 2", "end(1) -> 1", "hold(1, true) -> -5", "hold(1, false) -> -5", "state(1) -> 3",
                "hold(0, true) -> -2", "hold(2, true) -> -2", "hold(2, false) -> -2", "hold(-1, false) -> -2",
                "hold(MIN, true) -> -2", "hold(MAX, false) -> -2");
    }

    // Promise 12

    private static void nextTimeIs() {
        Sentence s = Sentence.of("The time is t");
        s.anew(2, 0).jobs(2, 0, 10).rows("next(1, 9) -> -4", "next(1, 10) -> 1", "waited(1) -> 0", "waited(2) -> 0",
                "next(2, 11) -> 2", "waited(2) -> 1", "end(2) -> 1", "job(0, 0, 5, 10) -> -4",
                "job(0, 0, 5, 11) -> 3", "next(2, LMAX) -> 3", "waited(3) -> 9223372036854775796");
    }

    private static void nextNumber() {
        Sentence s = Sentence.of("the initiator's next job runs: its number");
        s.anew(12, 0).jobs(100, 0, 0);
        for (int n = 1; n <= 100; n++) {
            int initiator = n % 12 + 1;
            s.due("next(" + initiator + ", 0)", n).due("state(" + n + ")", 2).due("end(" + n + ")", 1);
        }
        s.due("next(1, 0)", 0);
    }

    private static void nextNoneMayStart() {
        Sentence s = Sentence.of("0 when none may start");
        s.anew(1, 0).rows("next(1, 5) -> 0", "job(0, 0, 0, 4) -> -4", "job(1, 0, 0, 5) -> 1", "next(1, 7) -> 0",
                "waited(1) -> 2", "state(1) -> 0", "count(4) -> 0", "next(1, 7) -> 0", "job(0, 0, 0, 7) -> 2",
                "limit(0, 0) -> 1", "next(1, 9) -> 0", "waited(2) -> 2", "limit(0, 1) -> 1", "next(1, 8) -> -4",
                "next(1, 9) -> 2");
    }

    private static void nextDrained() {
        Sentence s = Sentence.of("-5 (the time stays) when it is drained");
        s.anew(1, 0).jobs(1, 0, 3).rows("drain(1, true) -> 1", "next(1, 3) -> -5", "next(1, 9) -> -5",
                "next(1, LMAX) -> -5", "waited(1) -> 0", "job(0, 0, 1, 3) -> 2", "drain(1, false) -> 1",
                "next(1, 3) -> 1", "waited(1) -> 0");
    }

    private static void nextRunsOne() {
        Sentence s = Sentence.of("-5 (the time stays) when it runs one");
        s.anew(1, 0).jobs(2, 0, 3).rows("next(1, 4) -> 1", "next(1, 4) -> -5", "next(1, 9) -> -5",
                "next(1, LMAX) -> -5", "waited(2) -> 1", "drain(1, true) -> 1", "next(1, 9) -> -5", "end(1) -> 1",
                "next(1, 9) -> -5", "drain(1, false) -> 1", "job(0, 0, 5, 4) -> 3", "next(1, 4) -> 2",
                "waited(2) -> 1");
    }

    // Promise 13

    private static void endRunning() {
        Sentence s = Sentence.of("A running job ends: 1");
        s.anew(2, 0).jobs(3, 0, 0).rows("next(1, 0) -> 1", "next(2, 0) -> 2", "end(1) -> 1", "state(1) -> 3",
                "state(2) -> 2", "count(4) -> 1", "next(2, 0) -> -5", "next(1, 0) -> 3", "end(2) -> 1", "end(3) -> 1",
                "count(4) -> 0", "next(1, 0) -> 0", "next(2, 0) -> 0");
    }

    private static void endState() {
        Sentence s = Sentence.of("-5 when it doesn't run; or refused");
        s.anew(1, 0).jobs(2, 0, 0).rows("end(1) -> -5", "hold(1, true) -> 1", "end(1) -> -5", "state(1) -> 1",
                "hold(1, false) -> 1", "next(1, 0) -> 1", "end(2) -> -5", "end(1) -> 1", "end(1) -> -5",
                "end(0) -> -2", "end(3) -> -2", "end(-1) -> -2", "end(MIN) -> -2", "end(MAX) -> -2",
                "state(1) -> 3", "state(2) -> 0");
    }

    // Promise 14

    private static void ageNone() {
        Sentence s = Sentence.of("Ageing by per (0: none)");
        s.anew(1, 0).rows("age(0, 15) -> 1", "job(0, 0, 0, 0) -> 1", "job(0, 1, 1, 100) -> 2", "order(0) -> 2",
                "age(1, 15) -> 1", "order(0) -> 1", "age(0, 15) -> 1", "order(0) -> 2", "age(0, 0) -> 1",
                "order(0) -> 2", "age(100, 15) -> 1", "order(0) -> 1", "age(101, 15) -> 1", "order(0) -> 2",
                "age(LMAX, 15) -> 1", "order(0) -> 2");
    }

    private static void ageNumbers() {
        Sentence s = Sentence.of("-4 when per is below 0, or most is not so");
        s.anew(1, 0).rows("age(10, 5) -> 1", "job(0, 0, 0, 0) -> 1", "job(0, 5, 1, 50) -> 2", "order(0) -> 1");
        for (String outside : new String[] {"-1", "-2", "-10", "LMIN", "-9223372036854775807"}) {
            s.due("age(" + outside + ", 0)", -4).due("age(" + outside + ", 15)", -4);
        }
        for (String outside : new String[] {"-1", "16", "-15", "17", "MIN", "MAX"}) {
            s.due("age(0, " + outside + ")", -4).due("age(1, " + outside + ")", -4);
        }
        s.rows("age(-1, 16) -> -4", "order(0) -> 1");
        for (int most = 0; most <= 15; most++) {
            s.due("age(10, " + most + ")", 1).due("order(0)", most >= 5 ? 1 : 2);
        }
    }

    // Promise 15

    private static void drainOrNotAnyMore() {
        Sentence s = Sentence.of("An initiator is drained, or not any more: 1; 0 when it was so; or refused");
        s.anew(2, 0).jobs(2, 0, 0).rows("drain(1, false) -> 0", "drain(1, true) -> 1", "drain(1, true) -> 0",
                "next(1, 0) -> -5", "count(5) -> 1", "drain(2, false) -> 0", "next(2, 0) -> 1", "drain(1, false) -> 1",
                "drain(1, false) -> 0", "count(5) -> 0", "next(1, 0) -> 2", "drain(0, true) -> -2",
                "drain(3, true) -> -2", "drain(0, false) -> -2", "drain(3, false) -> -2", "drain(-1, true) -> -2",
                "drain(MIN, true) -> -2", "drain(MAX, false) -> -2");
    }

    private static void drainJobGoesOn() {
        Sentence s = Sentence.of("(The job that it runs goes on.)");
        s.anew(1, 0).jobs(2, 0, 0).rows("next(1, 0) -> 1", "drain(1, true) -> 1", "state(1) -> 2", "count(4) -> 1",
                "count(5) -> 0", "drain(1, true) -> 0", "end(1) -> 1", "count(5) -> 1", "next(1, 0) -> -5",
                "drain(1, false) -> 1", "next(1, 0) -> 2", "drain(1, true) -> 1", "drain(1, false) -> 1",
                "state(2) -> 2", "next(1, 0) -> -5");
    }

    // Promise 16

    private static void weightNumbers() {
        Sentence s = Sentence.of("A class's weight becomes w (0 .. 1000): 1; or refused");
        s.rows("weight(0, 1) -> 1", "weight(35, 4) -> 1");
        for (String outside : new String[] {"-1", "1001", "-1000", "1002", "MIN", "MAX"}) {
            s.due("weight(0, " + outside + ")", -4);
        }
        for (String outside : new String[] {"-1", "36", "MIN", "MAX"}) {
            s.due("weight(" + outside + ", 1)", -4);
        }
        s.rows("share(0, 100) -> 20", "share(35, 100) -> 80", "weight(0, 0) -> 1", "share(0, 100) -> 0",
                "weight(0, 1000) -> 1", "share(0, 1004) -> 1000", "weight(0, 999) -> 1", "share(0, 1003) -> 999",
                "weight(35, 1) -> 1", "share(35, 1000) -> 1");
    }

    // Promise 17

    private static void shareRoundedDown() {
        Sentence s = Sentence.of("all times its weight divided by the sum of weights, rounded down");
        shares(weights(s, 1, 2, 3), 6, 1, 2, 3);
        shares(weights(s, 1, 2, 3), 12, 2, 4, 6);
        shares(weights(s, 1, 2, 3), 0, 0, 0, 0);
        shares(weights(s, 500, 0, 500), 10, 5, 0, 5);
        shares(weights(s, 7), 13, 13, 0);
    }

    private static void shareGreatestRemainders() {
        Sentence s = Sentence.of("what is left of all is given one by one to those with the greatest remainders");
        // The remainders of 1, 2, 4 by 7.
        shares(weights(s, 1, 2, 4), 1, 0, 0, 1);
        shares(weights(s, 1, 2, 4), 2, 0, 1, 1);
        shares(weights(s, 1, 2, 4), 3, 0, 1, 2);
        shares(weights(s, 1, 2, 4), 4, 1, 1, 2);
        shares(weights(s, 1, 2, 4), 5, 1, 1, 3);
        shares(weights(s, 1, 2, 4), 6, 1, 2, 3);
        shares(weights(s, 1, 2, 4), 7, 1, 2, 4);
        shares(weights(s, 1, 2, 4), 8, 1, 2, 5);
        shares(weights(s, 4, 2, 1), 2, 1, 1, 0);
        shares(weights(s, 0, 0, 1, 0, 2), 2, 0, 0, 1, 0, 1);
    }

    private static void shareLesserClass() {
        Sentence s = Sentence.of("of equal ones to the lesser class");
        shares(weights(s, 1, 1), 1, 1, 0);
        shares(weights(s, 1, 1, 1), 1, 1, 0, 0);
        shares(weights(s, 1, 1, 1), 2, 1, 1, 0);
        shares(weights(s, 3, 5, 3, 5), 3, 1, 1, 0, 1);
        int[] all = new int[36];
        Arrays.fill(all, 1000);
        for (int left = 0; left <= 36; left++) {
            weights(s, all);
            for (int c = 0; c < 36; c++) {
                s.due("share(" + c + ", " + left + ")", c < left ? 1 : 0);
            }
        }
    }

    private static void shareOfAll() {
        Sentence s = Sentence.of("A class's share of all: the shares are all together");
        int[][] rows = {{1, 2, 3, 4, 5}, {1000, 999, 998}, {1, 1000}, {0, 7, 0, 11, 13}, {333, 333, 334}};
        for (int[] row : rows) {
            for (long all = 0; all <= 40; all++) {
                long[] due = sharesByHand(row, all);
                shares(weights(s, row), all, due);
            }
        }
    }

    private static void shareWithoutWrap() {
        Sentence s = Sentence.of("all times its weight, past the range of a long too");
        int[] full = new int[36];
        for (int c = 0; c < 36; c++) {
            full[c] = 1000 - c % 3;
        }
        int[][] rows = {{1000}, {1, 1000}, {1000, 1}, {1000, 999, 998}, {1, 1, 1}, {1000, 1000}, full};
        for (int[] row : rows) {
            for (long all : new long[] {LONG_MAX, LONG_MAX - 1, LONG_MAX / 2 + 1, LONG_MAX / 1000, LONG_MAX / 1000 + 1,
                1L << 32, (1L << 53) + 1, 1L << 62}) {
                shares(weights(s, row), all, sharesByHand(row, all));
            }
        }
    }

    /** The words of the promise in numbers without an end. */
    private static long[] sharesByHand(int[] weights, long all) {
        BigInteger sum = BigInteger.ZERO;
        for (int w : weights) {
            sum = sum.add(BigInteger.valueOf(w));
        }
        long[] shares = new long[weights.length];
        BigInteger[] remainders = new BigInteger[weights.length];
        long left = all;
        for (int c = 0; c < weights.length; c++) {
            BigInteger[] parts = BigInteger.valueOf(all).multiply(BigInteger.valueOf(weights[c]))
                    .divideAndRemainder(sum);
            shares[c] = parts[0].longValueExact();
            remainders[c] = parts[1];
            left -= shares[c];
        }
        for (; left > 0; left--) {
            int greatest = 0;
            for (int c = 1; c < weights.length; c++) {
                greatest = remainders[c].compareTo(remainders[greatest]) > 0 ? c : greatest;
            }
            shares[greatest]++;
            remainders[greatest] = BigInteger.ONE.negate();
        }
        return shares;
    }

    private static void shareNone() {
        Sentence s = Sentence.of("NONE when there is no such class, or all is below 0");
        for (int round = 0; round < 2; round++) {
            s.rows("share(-1, 5) -> -1", "share(36, 5) -> -1", "share(-2, 0) -> -1", "share(37, 0) -> -1",
                    "share(MIN, 5) -> -1", "share(MAX, 5) -> -1", "share(0, -1) -> -1", "share(35, -1) -> -1",
                    "share(0, -2) -> -1", "share(0, LMIN) -> -1", "share(36, -1) -> -1", "weight(35, 2) -> 1");
        }
        s.rows("share(35, 0) -> 0", "share(35, 1) -> 1", "share(0, 1) -> 0", "share(34, 0) -> 0");
    }

    private static void shareThrows() {
        Sentence s = Sentence.of("ArithmeticException when all weights are 0");
        String thrown = "throws.ArithmeticException";
        s.due("share(0, 1)", thrown).due("share(35, 0)", thrown).due("share(0, LMAX)", thrown);
        for (int c = 0; c < 36; c++) {
            s.due("weight(" + c + ", 1)", 1).due("share(0, 1)", c == 0 ? 1 : 0).due("weight(" + c + ", 0)", 1);
            s.due("share(" + c + ", 1)", thrown);
        }
        s.rows("weight(3, 1) -> 1", "weight(3, 1001) -> -4", "share(3, 9) -> 9", "weight(3, 0) -> 1");
        s.due("share(3, 9)", thrown).due("count(0)", 0);
    }

    private static Sentence weights(Sentence s, int... weights) {
        s.anew();
        for (int c = 0; c < weights.length; c++) {
            s.due("weight(" + c + ", " + weights[c] + ")", 1);
        }
        return s;
    }

    private static void shares(Sentence s, long all, long... due) {
        for (int c = 0; c < due.length; c++) {
            s.due("share(" + c + ", " + all + ")", due[c]);
        }
    }

    // Promise 18

    private static void orderNotHeld() {
        Sentence s = Sentence.of("The i-th of all waiting jobs that are not held");
        s.anew(1, 3).rows("job(3, 2, 0, 0) -> 1", "job(4, 2, 0, 0) -> 2", "job(35, 2, 0, 0) -> 3",
                "job(0, 2, 1, 0) -> 4", "order(0) -> 1", "order(1) -> 2", "order(2) -> 3", "order(3) -> 4",
                "order(4) -> -1", "hold(2, true) -> 1", "order(1) -> 3", "order(2) -> 4", "order(3) -> -1",
                "next(1, 0) -> 1", "order(0) -> 3", "order(1) -> 4", "order(2) -> -1", "end(1) -> 1",
                "order(0) -> 3", "order(2) -> -1", "hold(2, false) -> 1", "order(0) -> 2", "order(2) -> 4");
        // Those that may not start as yet stand in it too.
        s.anew(1, 0).jobs(4, 0, 0).rows("needs(1, 2) -> 1", "uses(2, 0, 5) -> 1", "limit(0, 0) -> 1",
                "window(0, 5, 6) -> 1", "alone(3) -> 1", "order(0) -> 1", "order(1) -> 2", "order(2) -> 3",
                "order(3) -> 4");
    }

    private static void orderByPriorityThenArrival() {
        Sentence s = Sentence.of("by their priority now, then arrival");
        s.anew(1, 9).rows("job(5, 3, 0, 0) -> 1", "job(0, 4, 0, 0) -> 2", "job(9, 3, 0, 0) -> 3",
                "job(1, 4, 0, 5) -> 4", "job(2, 15, 0, 5) -> 5", "job(2, 0, 0, 5) -> 6", "order(0) -> 5",
                "order(1) -> 2", "order(2) -> 4",
                "order(3) -> 1", "order(4) -> 3", "order(5) -> 6", "order(6) -> -1", "age(5, 4) -> 1", "order(0) -> 5",
                "order(1) -> 1", "order(2) -> 2", "order(3) -> 3", "order(4) -> 4", "order(5) -> 6",
                "hold(3, true) -> 1", "next(1, 24) -> 0", "order(4) -> 6", "job(0, 4, 0, 24) -> 7", "order(4) -> 7",
                "order(5) -> 6", "next(1, 25) -> 0", "order(4) -> 6", "order(5) -> 7");
    }

    private static void orderNone() {
        Sentence s = Sentence.of("order: NONE for none");
        s.rows("order(0) -> -1", "order(-1) -> -1", "order(1) -> -1", "order(MIN) -> -1", "order(MAX) -> -1");
        s.jobs(1, 0, 0).rows("order(-1) -> -1", "order(0) -> 1", "order(1) -> -1", "order(MIN) -> -1",
                "order(MAX) -> -1", "hold(1, true) -> 1", "order(0) -> -1");
        s.anew().jobs(100, 0, 0).rows("order(-1) -> -1", "order(0) -> 1", "order(98) -> 99", "order(99) -> 100",
                "order(100) -> -1", "order(101) -> -1", "order(MIN) -> -1", "order(MAX) -> -1");
    }

    // Promise 19

    private static void waitedTillItRan() {
        Sentence s = Sentence.of("How long a job waited: till it ran");
        s.anew(2, 0).jobs(2, 0, 5).rows("next(1, 5) -> 1", "waited(1) -> 0", "next(2, 6) -> 2", "waited(2) -> 1",
                "waited(1) -> 0", "end(1) -> 1", "next(1, 100) -> 0", "waited(1) -> 0", "waited(2) -> 1",
                "end(2) -> 1", "waited(2) -> 1", "next(1, LMAX) -> 0", "waited(1) -> 0", "waited(2) -> 1");
        s.anew(1, 0).jobs(1, 0, 0).rows("next(1, LMAX) -> 1", "waited(1) -> 9223372036854775807", "end(1) -> 1",
                "waited(1) -> 9223372036854775807");
    }

    private static void waitedTillNow() {
        Sentence s = Sentence.of("or till now");
        s.anew(1, 1).rows("job(0, 0, 0, 3) -> 1", "waited(1) -> 0", "next(1, 4) -> 0", "waited(1) -> 1",
                "hold(1, true) -> 1", "next(1, 10) -> 0", "waited(1) -> 7", "hold(1, false) -> 1", "waited(1) -> 7",
                "job(0, 0, 0, 11) -> 2", "waited(1) -> 8", "waited(2) -> 0", "job(0, 0, 0, 10) -> -4",
                "next(1, 10) -> -4", "waited(1) -> 8", "next(1, LMAX) -> 0", "waited(1) -> 9223372036854775804");
    }

    private static void waitedNone() {
        Sentence s = Sentence.of("waited: NONE when there is none such");
        s.rows("waited(0) -> -1", "waited(1) -> -1");
        s.jobs(1, 0, 0).rows("waited(0) -> -1", "waited(1) -> 0", "waited(2) -> -1", "waited(-1) -> -1",
                "waited(MIN) -> -1", "waited(MAX) -> -1");
        s.anew().jobs(100, 0, 0).rows("waited(99) -> 0", "waited(100) -> 0", "waited(101) -> -1");
    }

    // Promise 20

    private static void stateNone() {
        Sentence s = Sentence.of("state: NONE when there is none such");
        s.rows("state(0) -> -1", "state(1) -> -1");
        s.jobs(1, 0, 0).rows("state(0) -> -1", "state(1) -> 0", "state(2) -> -1", "state(-1) -> -1",
                "state(MIN) -> -1", "state(MAX) -> -1");
        s.anew().jobs(100, 0, 0).rows("state(99) -> 0", "state(100) -> 0", "state(101) -> -1");
    }

    // Promise 21

    private static void countInitiatorsAndJobs() {
        Sentence s = Sentence.of("what = 0 initiators, 1 jobs");
        for (int n = 1; n <= 12; n++) {
            s.due("initiator()", n).due("count(0)", n).due("count(1)", 0);
        }
        s.rows("initiator() -> -1", "count(0) -> 12");
        for (int n = 1; n <= 100; n++) {
            s.jobs(1, 0, 0).due("count(1)", n).due("count(0)", 12);
        }
        s.rows("job(0, 0, 0, 0) -> -1", "count(1) -> 100", "cls(1, 0, 0) -> 1", "next(1, 0) -> 1", "count(1) -> 100",
                "end(1) -> 1", "count(1) -> 100");
    }

    private static void countWaiting() {
        Sentence s = Sentence.of("2 waiting ones, 3 held ones of them");
        s.anew(1, 0).jobs(3, 0, 0).rows("count(2) -> 3", "count(3) -> 0", "hold(2, true) -> 1", "count(2) -> 3",
                "count(3) -> 1", "hold(2, true) -> 0", "count(3) -> 1", "next(1, 0) -> 1", "count(2) -> 2",
                "count(3) -> 1", "end(1) -> 1", "count(2) -> 2", "hold(3, true) -> 1", "count(2) -> 2",
                "count(3) -> 2", "hold(2, false) -> 1", "count(3) -> 1", "next(1, 0) -> 2", "count(2) -> 1",
                "count(3) -> 1");
        s.anew().jobs(100, 0, 0);
        for (int n = 1; n <= 100; n++) {
            s.due("hold(" + n + ", true)", 1);
        }
        s.rows("count(2) -> 100", "count(3) -> 100", "count(4) -> 0");
    }

    private static void countRunning() {
        Sentence s = Sentence.of("4 running ones");
        s.anew(12, 0).jobs(13, 0, 0);
        for (int n = 1; n <= 12; n++) {
            s.due("count(4)", n - 1).due("next(" + n + ", 0)", n);
        }
        s.rows("count(4) -> 12", "count(2) -> 1", "end(3) -> 1", "count(4) -> 11", "end(3) -> -5", "count(4) -> 11",
                "next(3, 0) -> 13", "count(4) -> 12");
    }

    private static void countDrained() {
        Sentence s = Sentence.of("5 initiators that are drained and run none");
        s.anew(3, 0).jobs(2, 0, 0).rows("count(5) -> 0", "drain(1, true) -> 1", "count(5) -> 1", "next(2, 0) -> 1",
                "count(5) -> 1", "drain(2, true) -> 1", "count(5) -> 1", "end(1) -> 1", "count(5) -> 2",
                "drain(3, true) -> 1", "count(5) -> 3", "drain(3, true) -> 0", "count(5) -> 3", "drain(1, false) -> 1",
                "count(5) -> 2", "next(1, 0) -> 2", "count(5) -> 2");
        s.anew(12, 0);
        for (int n = 1; n <= 12; n++) {
            s.due("drain(" + n + ", true)", 1).due("count(5)", n);
        }
    }

    private static void countUnits() {
        Sentence s = Sentence.of("10 .. 13 units of a kind that running jobs use");
        s.anew(12, 0).jobs(12, 0, 0).rows("units(0, 1000) -> 1", "units(1, 900) -> 1", "units(2, 12) -> 1",
                "count(10) -> 0", "count(11) -> 0", "count(12) -> 0", "count(13) -> 0");
        for (int n = 1; n <= 12; n++) {
            s.due("uses(" + n + ", 0, 83)", 1).due("uses(" + n + ", 1, 75)", 1).due("uses(" + n + ", 2, 1)", 1);
        }
        for (int n = 1; n <= 12; n++) {
            s.due("next(" + n + ", 0)", n);
            s.due("count(10)", 83 * n).due("count(11)", 75 * n).due("count(12)", n).due("count(13)", 0);
        }
        for (int n = 1; n <= 12; n++) {
            s.due("end(" + n + ")", 1);
            s.due("count(10)", 83 * (12 - n)).due("count(11)", 75 * (12 - n)).due("count(12)", 12 - n);
        }
    }

    private static void countNone() {
        Sentence s = Sentence.of("NONE for others");
        String[] others = {"-1", "6", "7", "8", "9", "14", "15", "-10", "100", "MIN", "MAX"};
        for (int round = 0; round < 2; round++) {
            for (String what : others) {
                s.due("count(" + what + ")", -1);
            }
            s.rows("count(0) -> " + round, "count(5) -> 0", "count(10) -> 0", "count(13) -> 0", "initiator() -> "
                    + (round + 1));
        }
    }
}
