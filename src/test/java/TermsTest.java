/** The document's section 'Terms', sentence by sentence: each bound, and both sides of it. */
public final class TermsTest {
    public static void main(String[] args) {
        classes();
        limitAtFirst();
        windowAtFirst();
        weightAtFirst();
        initiatorsNumbered();
        initiatorsThatAreNot();
        listOfEightPlaces();
        listPlacesEmptied();
        runsOneJobAtATime();
        mayBeDrained();
        jobsNumbered();
        jobsThatAreNot();
        stagesOfAJob();
        kinds();
        unitsAtFirst();
        timeAtFirst();
        timeNeverGoesBack();
        dayHas1440();
        priorityIsItsOwn();
        oneMoreForEachWholePer();
        sinceItArrived();
        upToMost();
        neverBelowItsOwn();
        notHeld();
        fewerThanItsLimit();
        inTheWindow();
        noJobOfItsNameRuns();
        allThatItNeedsHaveEnded();
        unitsOfEachKind();
        aloneWhenNothingRuns();
        nothingRunsThatIsAlone();
        firstClassInItsList();
        greatestPriority();
        arrivedFirst();
        noSuchIsToldFirst();
        outsideAheadOfState();
        outsideAheadOfNoRoom();
        refusedChangesNothing();
        askingChangesNothing();
        atMost512Calls();
        Sentence.end();
    }

    private static void classes() {
        Sentence s = Sentence.of("CLASSES are 0 .. 35");
        s.rows("initiator() -> 1");
        String[] calls = {"limit(%s, 1)", "window(%s, 1, 2)", "job(%s, 1, 1, 0)", "weight(%s, 1)"};
        for (String call : calls) {
            for (String outside : new String[] {"-1", "36", "-36", "37", "MIN", "MAX"}) {
                s.due(String.format(call, outside), -4);
            }
        }
        for (String outside : new String[] {"-2", "36", "37", "MIN", "MAX"}) {
            s.due("cls(1, 0, " + outside + ")", -4);
        }
        s.rows("share(-1, 1) -> -1", "share(36, 1) -> -1", "share(MIN, 1) -> -1", "share(MAX, 1) -> -1");
        s.rows("job(0, 1, 1, 0) -> 1", "job(1, 1, 1, 0) -> 2", "job(34, 1, 1, 0) -> 3", "job(35, 1, 1, 0) -> 4");
        for (int c : new int[] {0, 1, 34, 35}) {
            s.due("cls(1, 0, " + c + ")", 1).due("limit(" + c + ", 1)", 1);
            s.due("window(" + c + ", 1, 1)", 1).due("weight(" + c + ", 1)", 1);
        }
        s.rows("share(0, 4) -> 1", "share(35, 4) -> 1", "next(1, 0) -> 4");
    }

    private static void limitAtFirst() {
        Sentence s = Sentence.of("a LIMIT of running jobs (40 at first)");
        for (int c = 0; c < 36; c++) {
            s.anew(12, c).jobs(12, c, 0);
            for (int n = 1; n <= 12; n++) {
                s.due("next(" + n + ", 0)", n);
            }
        }
    }

    private static void windowAtFirst() {
        Sentence s = Sentence.of("a WINDOW of minutes of the day (all of it at first)");
        for (int c = 0; c < 36; c++) {
            for (int minute = c % 7; minute < 1440; minute += 7) {
                s.anew(1, c).jobs(1, c, 0).due("next(1, " + minute + ")", 1);
            }
            s.anew(1, c).jobs(1, c, 0).due("next(1, 0)", 1);
            s.anew(1, c).jobs(1, c, 0).due("next(1, 1439)", 1);
        }
    }

    private static void weightAtFirst() {
        Sentence s = Sentence.of("a WEIGHT (0 at first)");
        for (int c = 0; c < 36; c++) {
            s.due("share(" + c + ", 1)", "throws.ArithmeticException");
        }
        for (int c = 0; c < 36; c++) {
            s.anew().due("weight(" + c + ", 1)", 1);
            for (int k = 0; k < 36; k++) {
                s.due("share(" + k + ", 7)", k == c ? 7 : 0);
            }
        }
    }

    private static void initiatorsNumbered() {
        Sentence s = Sentence.of("INITIATORS are numbered from 1 on (at most 12)");
        s.due("count(0)", 0);
        for (int n = 1; n <= 12; n++) {
            s.due("initiator()", n).due("count(0)", n);
        }
        s.rows("initiator() -> -1", "initiator() -> -1", "count(0) -> 12");
    }

    private static void initiatorsThatAreNot() {
        Sentence s = Sentence.of("-2 no such initiator");
        for (int there : new int[] {0, 1, 11, 12}) {
            s.anew(there, 0).jobs(1, 0, 0);
            for (String outside : new String[] {"0", "-1", String.valueOf(there + 1), "MIN", "MAX"}) {
                s.due("cls(" + outside + ", 0, 1)", -2);
                s.due("next(" + outside + ", 5)", -2);
                s.due("drain(" + outside + ", true)", -2);
                s.due("drain(" + outside + ", false)", -2);
            }
            if (there > 0) {
                s.due("drain(1, true)", 1).due("drain(1, false)", 1);
                s.due("cls(" + there + ", 7, 1)", 1).due("next(" + there + ", 0)", 1);
            }
        }
    }

    private static void listOfEightPlaces() {
        Sentence s = Sentence.of("each has a LIST of eight places, each with a class or none");
        s.rows("initiator() -> 1");
        for (int c = 0; c < 36; c++) {
            s.due("job(" + c + ", 0, " + c + ", 0)", c + 1);
        }
        s.due("next(1, 0)", 0);
        s.anew(2, 0).due("cls(2, 0, NONE)", 1);
        int[] list = {9, 35, 0, 4, 17, 3, 34, 1};
        for (int place = 7; place >= 0; place--) {
            s.due("cls(1, " + place + ", " + list[place] + ")", 1);
        }
        for (int c = 0; c < 36; c++) {
            s.due("job(" + c + ", " + c % 16 + ", " + c + ", 0)", c + 1);
        }
        for (int place = 0; place < 8; place++) {
            int job = list[place] + 1;
            s.due("next(2, 0)", 0);
            s.due("next(1, 0)", job).due("end(" + job + ")", 1);
        }
        s.due("next(1, 0)", 0);
    }

    private static void listPlacesEmptied() {
        Sentence s = Sentence.of("each with a class or none");
        for (int empty = 0; empty < 8; empty++) {
            s.anew(1, 0);
            for (int place = 0; place < 8; place++) {
                s.due("cls(1, " + place + ", " + place + ")", 1);
                s.due("job(" + place + ", 0, " + place + ", 0)", place + 1);
            }
            s.due("cls(1, " + empty + ", NONE)", 1);
            for (int place = 0; place < 8; place++) {
                if (place != empty) {
                    s.due("next(1, 0)", place + 1).due("end(" + (place + 1) + ")", 1);
                }
            }
            s.due("next(1, 0)", 0).due("cls(1, " + empty + ", " + empty + ")", 1);
            s.due("next(1, 0)", empty + 1);
        }
        s.anew(1, 3).jobs(2, 3, 0);
        for (int place = 1; place < 8; place++) {
            s.due("cls(1, " + place + ", 3)", 1);
        }
        s.rows("cls(1, 0, NONE) -> 1", "next(1, 0) -> 1", "end(1) -> 1", "next(1, 0) -> 2", "end(2) -> 1",
                "next(1, 0) -> 0");
    }

    private static void runsOneJobAtATime() {
        Sentence s = Sentence.of("runs one job at a time or none");
        s.anew(2, 0).jobs(3, 0, 0);
        s.rows("next(1, 0) -> 1", "next(1, 0) -> -5", "next(1, 9) -> -5", "next(2, 0) -> 2", "next(2, 0) -> -5",
                "end(1) -> 1", "next(2, 0) -> -5", "next(1, 0) -> 3", "next(1, 0) -> -5", "count(4) -> 2");
    }

    private static void mayBeDrained() {
        Sentence s = Sentence.of("may be DRAINED");
        s.anew(2, 0).jobs(2, 0, 0);
        s.rows("drain(1, false) -> 0", "drain(2, true) -> 1", "next(2, 0) -> -5", "next(1, 0) -> 1",
                "drain(2, false) -> 1", "next(2, 0) -> 2");
    }

    private static void jobsNumbered() {
        Sentence s = Sentence.of("JOBS are numbered from 1 on as they arrive (at most 100)");
        s.due("count(1)", 0);
        for (int n = 1; n <= 100; n++) {
            s.due("job(" + n % 36 + ", " + n % 16 + ", " + (n - 1) + ", " + n + ")", n).due("count(1)", n);
        }
        s.rows("job(0, 0, 0, 100) -> -1", "job(35, 15, 99, 101) -> -1", "count(1) -> 100", "state(100) -> 0",
                "state(101) -> -1");
        s.anew(1, 0).jobs(100, 0, 0);
        s.rows("next(1, 0) -> 1", "job(0, 0, 0, 0) -> -1", "end(1) -> 1", "job(0, 0, 0, 0) -> -1",
                "next(1, 0) -> 2");
    }

    private static void jobsThatAreNot() {
        Sentence s = Sentence.of("-2 no such initiator or job");
        for (int there : new int[] {0, 1, 99, 100}) {
            s.anew().jobs(there, 0, 0);
            for (String outside : new String[] {"0", "-1", String.valueOf(there + 1), "MIN", "MAX"}) {
                s.due("uses(" + outside + ", 0, 1)", -2).due("alone(" + outside + ")", -2);
                s.due("hold(" + outside + ", true)", -2).due("hold(" + outside + ", false)", -2);
                s.due("end(" + outside + ")", -2);
                s.due("needs(" + outside + ", " + outside + ")", -2);
                s.due("waited(" + outside + ")", -1).due("state(" + outside + ")", -1);
                if (there > 0) {
                    s.due("needs(" + outside + ", 1)", -2).due("needs(1, " + outside + ")", -2);
                }
            }
            if (there > 0) {
                s.due("uses(" + there + ", 0, 0)", 1).due("alone(" + there + ")", 1).due("hold(1, true)", 1);
                s.due("end(" + there + ")", -5).due("waited(" + there + ")", 0).due("state(1)", 1);
            }
        }
    }

    private static void stagesOfAJob() {
        Sentence s = Sentence.of("one WAITS (HELD or not), RUNS, or has ENDED");
        s.anew(1, 0).jobs(1, 0, 0);
        s.rows("state(1) -> 0", "hold(1, true) -> 1", "state(1) -> 1", "next(1, 0) -> 0", "end(1) -> -5",
                "hold(1, false) -> 1", "state(1) -> 0", "end(1) -> -5", "next(1, 0) -> 1", "state(1) -> 2",
                "hold(1, true) -> -5", "state(1) -> 2", "end(1) -> 1", "state(1) -> 3", "end(1) -> -5",
                "hold(1, true) -> -5", "hold(1, false) -> -5", "next(1, 0) -> 0", "state(1) -> 3");
    }

    private static void kinds() {
        Sentence s = Sentence.of("RESOURCES are of kinds 0 .. 3");
        s.anew(1, 0).jobs(1, 0, 0);
        for (String outside : new String[] {"-1", "4", "5", "MIN", "MAX"}) {
            s.due("units(" + outside + ", 1)", -4).due("uses(1, " + outside + ", 1)", -4);
        }
        for (int kind = 0; kind < 4; kind++) {
            s.due("units(" + kind + ", " + (kind + 5) + ")", 1);
            s.due("uses(1, " + kind + ", " + (kind + 5) + ")", 1);
        }
        s.rows("next(1, 0) -> 1", "count(9) -> -1", "count(10) -> 5", "count(11) -> 6", "count(12) -> 7",
                "count(13) -> 8", "count(14) -> -1");
    }

    private static void unitsAtFirst() {
        Sentence s = Sentence.of("each of so many UNITS (0 at first)");
        for (int kind = 0; kind < 4; kind++) {
            s.anew(1, 0).jobs(1, 0, 0);
            s.due("uses(1, " + kind + ", 1)", 1).due("next(1, 0)", 0);
            for (int other = 0; other < 4; other++) {
                if (other != kind) {
                    s.due("units(" + other + ", 1000)", 1);
                }
            }
            s.due("next(1, 0)", 0).due("uses(1, " + kind + ", 0)", 1).due("next(1, 0)", 1);
        }
    }

    private static void timeAtFirst() {
        Sentence s = Sentence.of("TIME, in minutes, is 0 at first");
        s.rows("job(0, 0, 0, -1) -> -4", "job(0, 0, 0, LMIN) -> -4", "job(0, 0, 0, 0) -> 1", "waited(1) -> 0");
        s.anew().rows("job(0, 0, 0, 1) -> 1", "waited(1) -> 0");
        s.anew(1, 0).rows("next(1, -1) -> -4", "next(1, LMIN) -> -4", "next(1, 0) -> 0", "job(0, 0, 0, 0) -> 1");
        s.anew(1, 0).rows("next(1, 1) -> 0", "job(0, 0, 0, 0) -> -4", "job(0, 0, 0, 1) -> 1");
    }

    private static void timeNeverGoesBack() {
        Sentence s = Sentence.of("and never goes back");
        s.anew(1, 0).jobs(1, 0, 10);
        s.rows("job(0, 0, 1, 9) -> -4", "next(1, 9) -> -4", "job(0, 0, 1, 10) -> 2", "job(0, 0, 2, 11) -> 3",
                "next(1, 10) -> -4", "waited(1) -> 1", "next(1, 11) -> 1", "end(1) -> 1", "next(1, 12) -> 2",
                "job(0, 0, 3, 11) -> -4", "job(0, 0, 3, 12) -> 4", "waited(3) -> 1");
        s.anew(2, 0).jobs(2, 0, 0);
        s.rows("next(1, LMAX) -> 1", "next(2, 9223372036854775806) -> -4", "next(2, 0) -> -4", "next(2, LMIN) -> -4",
                "job(0, 0, 9, 9223372036854775806) -> -4", "job(0, 0, 9, LMAX) -> 3", "next(2, LMAX) -> 2",
                "waited(2) -> 9223372036854775807", "waited(3) -> 0");
    }

    private static void dayHas1440() {
        Sentence s = Sentence.of("the day has 1440");
        s.anew(1, 0).jobs(4, 0, 0);
        s.rows("window(0, 1439, 0) -> 1", "next(1, 0) -> 0", "next(1, 1438) -> 0", "next(1, 1439) -> 1", "end(1) -> 1",
                "next(1, 1440) -> 0", "next(1, 2878) -> 0", "next(1, 2879) -> 2", "end(2) -> 1", "next(1, 2880) -> 0");
        s.anew(1, 0).jobs(4, 0, 0);
        s.rows("window(0, 0, 1) -> 1", "next(1, 0) -> 1", "end(1) -> 1", "next(1, 1) -> 0", "next(1, 1439) -> 0",
                "next(1, 1440) -> 2", "end(2) -> 1", "next(1, 1441) -> 0", "next(1, 2879) -> 0", "next(1, 2880) -> 3");
        // A day past the range of an int, and the last minute that a long tells: 1087 of its day.
        s.anew(1, 0).jobs(3, 0, 0);
        s.rows("window(0, 0, 1) -> 1", "next(1, 4319999999999) -> 0", "next(1, 4320000000000) -> 1", "end(1) -> 1",
                "next(1, 4320000000001) -> 0", "window(0, 1087, 1088) -> 1", "next(1, 9223372036854775806) -> 0",
                "next(1, LMAX) -> 2");
    }

    private static void priorityIsItsOwn() {
        Sentence s = Sentence.of("A job's PRIORITY NOW: its own");
        s.anew(1, 0);
        for (int priority = 0; priority < 16; priority++) {
            s.due("job(0, " + priority + ", " + priority + ", " + priority * 1000 + ")", priority + 1);
        }
        for (int i = 0; i < 16; i++) {
            s.due("order(" + i + ")", 16 - i);
        }
        s.rows("order(16) -> -1", "next(1, LMAX) -> 16", "order(0) -> 15", "order(14) -> 1");
    }

    private static void oneMoreForEachWholePer() {
        Sentence s = Sentence.of("its own and one more for each whole per that it waited");
        for (long per : new long[] {1, 2, 10, 1440, 4000000000L, 1000000000000000000L}) {
            for (int steps = 1; steps <= 8; steps++) {
                long whole = per * steps;
                // Job 1 is ahead of a later one of the same priority, and behind one of a greater.
                s.anew().rows("age(" + per + ", 15) -> 1", "job(0, 0, 0, 0) -> 1");
                s.due("job(0, " + steps + ", 1, " + (whole - 1) + ")", 2).due("order(0)", 2);
                s.due("job(0, " + steps + ", 2, " + whole + ")", 3).due("order(0)", per == 1 ? 2 : 1);
                s.anew().rows("age(" + per + ", 15) -> 1", "job(0, 0, 0, 0) -> 1");
                s.due("job(0, " + steps + ", 1, " + whole + ")", 2).due("order(0)", 1);
                s.anew().rows("age(" + per + ", 15) -> 1", "job(0, 0, 0, 0) -> 1");
                s.due("job(0, " + (steps + 1) + ", 1, " + whole + ")", 2).due("order(0)", 2);
            }
        }
        s.anew().rows("age(LMAX, 15) -> 1", "job(0, 0, 0, 0) -> 1", "job(0, 1, 1, 9223372036854775806) -> 2",
                "order(0) -> 2", "job(0, 1, 2, LMAX) -> 3", "order(0) -> 1", "order(1) -> 2", "order(2) -> 3");
    }

    private static void sinceItArrived() {
        Sentence s = Sentence.of("that it waited since it arrived");
        s.anew(1, 1).rows("age(10, 15) -> 1", "job(0, 0, 0, 5) -> 1", "job(0, 1, 1, 14) -> 2", "order(0) -> 2",
                "next(1, 15) -> 0", "order(0) -> 1", "next(1, 23) -> 0", "order(0) -> 1", "next(1, 24) -> 0",
                "order(0) -> 2", "next(1, 25) -> 0", "order(0) -> 1");
        // Ageing that comes late counts from the arrival, and held time counts too.
        s.anew().rows("job(0, 0, 0, 0) -> 1", "hold(1, true) -> 1", "job(0, 3, 1, 30) -> 2", "hold(1, false) -> 1",
                "order(0) -> 2", "age(10, 15) -> 1", "order(0) -> 1", "age(11, 15) -> 1", "order(0) -> 2",
                "age(0, 15) -> 1", "order(0) -> 2");
    }

    private static void upToMost() {
        Sentence s = Sentence.of("up to most");
        for (int most = 1; most <= 15; most++) {
            s.anew().due("age(1, " + most + ")", 1).due("job(0, 0, 0, 0)", 1);
            s.due("job(0, " + most + ", 1, " + (most - 1) + ")", 2).due("order(0)", 2);
            s.due("job(0, " + most + ", 2, " + most + ")", 3);
            s.due("order(0)", 1).due("order(1)", 2).due("order(2)", 3);
            if (most < 15) {
                s.due("job(0, " + (most + 1) + ", 3, LMAX)", 4).due("order(0)", 4).due("order(1)", 1);
            }
        }
        s.anew().rows("age(1, 0) -> 1", "job(0, 0, 0, 0) -> 1", "job(0, 1, 1, LMAX) -> 2", "order(0) -> 2",
                "age(1, 1) -> 1", "order(0) -> 1");
        // One step for each minute of a long stays at most, and doesn't wrap around.
        s.anew().rows("age(1, 15) -> 1", "job(0, 0, 0, 0) -> 1", "job(0, 14, 1, LMAX) -> 2", "order(0) -> 1");
        s.anew().rows("age(1, 15) -> 1", "job(0, 0, 0, 0) -> 1", "job(0, 14, 1, 4294967296) -> 2", "order(0) -> 1");
        s.anew().rows("age(1, 15) -> 1", "job(0, 0, 0, 0) -> 1", "job(0, 14, 1, 2147483648) -> 2", "order(0) -> 1");
    }

    private static void neverBelowItsOwn() {
        Sentence s = Sentence.of("never below its own");
        s.anew().rows("age(1, 5) -> 1", "job(0, 0, 0, 0) -> 1", "job(0, 5, 1, 0) -> 2", "job(0, 6, 2, 0) -> 3",
                "job(0, 15, 3, 0) -> 4", "order(0) -> 4", "order(1) -> 3", "order(2) -> 2", "order(3) -> 1",
                "job(0, 4, 4, 100) -> 5", "order(0) -> 4", "order(1) -> 3", "order(2) -> 1", "order(3) -> 2",
                "order(4) -> 5");
        s.anew().rows("age(1, 0) -> 1", "job(0, 1, 0, 0) -> 1", "job(0, 2, 1, 0) -> 2", "job(0, 0, 2, 99) -> 3",
                "order(0) -> 2", "order(1) -> 1", "order(2) -> 3");
    }

    private static void notHeld() {
        Sentence s = Sentence.of("A waiting job MAY START if: it is not held");
        s.anew(1, 0).jobs(2, 0, 0);
        s.rows("hold(1, true) -> 1", "hold(2, true) -> 1", "next(1, 0) -> 0", "hold(2, false) -> 1", "next(1, 0) -> 2",
                "end(2) -> 1", "next(1, 0) -> 0", "hold(1, false) -> 1", "next(1, 0) -> 1");
    }

    private static void fewerThanItsLimit() {
        Sentence s = Sentence.of("fewer jobs of its class run than its limit");
        for (int limit = 0; limit <= 12; limit++) {
            s.anew(12, 7).jobs(13, 7, 0).due("limit(7, " + limit + ")", 1);
            for (int n = 1; n <= 12; n++) {
                s.due("next(" + n + ", 0)", n <= limit ? n : 0);
            }
            if (limit > 0) {
                s.due("end(1)", 1).due("next(1, 0)", limit + 1);
            }
        }
        s.anew(3, 7).jobs(3, 7, 0);
        s.rows("cls(3, 0, 8) -> 1", "job(8, 0, 50, 0) -> 4", "limit(7, 1) -> 1", "limit(8, 1) -> 1", "next(3, 0) -> 4",
                "next(1, 0) -> 1", "next(2, 0) -> 0", "end(4) -> 1", "next(2, 0) -> 0", "limit(7, 2) -> 1",
                "next(2, 0) -> 2", "limit(7, 1) -> 1", "end(1) -> 1", "next(1, 0) -> 0", "end(2) -> 1",
                "next(1, 0) -> 3");
    }

    private static void inTheWindow() {
        Sentence s = Sentence.of("the minute of the day is in the class's window");
        s.anew(1, 0).jobs(3, 0, 0);
        s.rows("cls(1, 1, 1) -> 1", "job(1, 0, 90, 0) -> 4", "window(0, 60, 62) -> 1", "next(1, 59) -> 4",
                "end(4) -> 1", "next(1, 59) -> 0", "next(1, 60) -> 1", "end(1) -> 1", "next(1, 61) -> 2",
                "end(2) -> 1", "next(1, 62) -> 0", "next(1, 1499) -> 0", "next(1, 1500) -> 3");
    }

    private static void noJobOfItsNameRuns() {
        Sentence s = Sentence.of("no job of its name runs");
        for (int name = 0; name < 100; name++) {
            int other = name == 0 ? 1 : name - 1;
            s.anew(2, 0).due("cls(2, 0, 1)", 1);
            s.due("job(0, 0, " + name + ", 0)", 1).due("job(1, 9, " + name + ", 0)", 2);
            s.due("job(1, 0, " + other + ", 0)", 3).due("job(1, 0, " + (name + 64) % 100 + ", 0)", 4);
            s.rows("next(1, 0) -> 1", "next(2, 0) -> 3", "end(3) -> 1", "next(2, 0) -> 4", "end(4) -> 1",
                    "next(2, 0) -> 0", "end(1) -> 1", "next(2, 0) -> 2", "end(2) -> 1");
        }
        // One of the name that waits, held or not, stands in no one's way.
        s.anew(1, 0).rows("job(0, 0, 5, 0) -> 1", "job(0, 1, 5, 0) -> 2", "job(0, 2, 5, 0) -> 3",
                "hold(3, true) -> 1", "next(1, 0) -> 2", "end(2) -> 1", "next(1, 0) -> 1");
    }

    private static void allThatItNeedsHaveEnded() {
        Sentence s = Sentence.of("all that it needs have ended");
        s.anew(4, 0).jobs(4, 0, 0);
        s.rows("needs(1, 2) -> 1", "needs(1, 3) -> 1", "needs(1, 4) -> 1", "next(1, 0) -> 2", "next(2, 0) -> 3",
                "next(3, 0) -> 4", "next(4, 0) -> 0", "end(4) -> 1", "next(4, 0) -> 0", "end(2) -> 1",
                "next(4, 0) -> 0", "end(3) -> 1", "next(4, 0) -> 1");
        s.anew(1, 0).jobs(100, 0, 0);
        s.rows("needs(1, 100) -> 1", "needs(2, 64) -> 1", "needs(3, 63) -> 1", "next(1, 0) -> 4", "end(4) -> 1",
                "hold(100, true) -> 1", "hold(64, true) -> 1", "hold(63, true) -> 1", "next(1, 0) -> 5", "end(5) -> 1",
                "hold(63, false) -> 1", "alone(63) -> 1");
        for (int n = 6; n <= 63; n++) {
            s.due("next(1, 0)", n).due("end(" + n + ")", 1);
        }
        s.rows("next(1, 0) -> 3", "end(3) -> 1", "next(1, 0) -> 65", "end(65) -> 1", "hold(64, false) -> 1",
                "next(1, 0) -> 64", "end(64) -> 1", "next(1, 0) -> 2");
    }

    private static void unitsOfEachKind() {
        Sentence s = Sentence.of("of each kind the units that it uses and those that running jobs use"
                + " are not more than there are");
        for (int kind = 0; kind < 4; kind++) {
            s.anew(3, 0).jobs(3, 0, 0);
            s.due("units(" + kind + ", 10)", 1);
            s.due("uses(1, " + kind + ", 4)", 1).due("uses(2, " + kind + ", 7)", 1).due("uses(3, " + kind + ", 1)", 1);
            s.rows("next(1, 0) -> 1", "hold(3, true) -> 1", "next(2, 0) -> 0");
            s.due("uses(2, " + kind + ", 6)", 1).due("next(2, 0)", 2).due("count(" + (10 + kind) + ")", 10);
            s.rows("hold(3, false) -> 1", "next(3, 0) -> 0", "end(1) -> 1", "next(3, 0) -> 3");
            s.due("count(" + (10 + kind) + ")", 7);
        }
        // All kinds must do: one that falls short is enough to wait.
        for (int kind = 0; kind < 4; kind++) {
            s.anew(1, 0).jobs(1, 0, 0);
            for (int each = 0; each < 4; each++) {
                s.due("units(" + each + ", " + (each == kind ? 4 : 5) + ")", 1).due("uses(1, " + each + ", 5)", 1);
            }
            s.due("next(1, 0)", 0).due("units(" + kind + ", 5)", 1).due("next(1, 0)", 1);
        }
        s.anew(12, 0).jobs(12, 0, 0).due("units(2, 1000)", 1);
        for (int n = 1; n <= 12; n++) {
            s.due("uses(" + n + ", 2, " + (n == 12 ? 10 : 90) + ")", 1).due("next(" + n + ", 0)", n);
        }
        s.due("count(12)", 1000);
    }

    private static void aloneWhenNothingRuns() {
        Sentence s = Sentence.of("if it is to run alone, nothing runs");
        s.anew(3, 0).rows("cls(2, 0, 1) -> 1", "cls(3, 0, 2) -> 1", "job(0, 0, 0, 0) -> 1", "job(1, 0, 1, 0) -> 2",
                "job(2, 0, 2, 0) -> 3", "alone(3) -> 1", "next(1, 0) -> 1", "next(2, 0) -> 2", "next(3, 0) -> 0",
                "end(1) -> 1", "next(3, 0) -> 0", "end(2) -> 1", "next(3, 0) -> 3");
        s.anew(2, 0).jobs(2, 0, 0).rows("alone(1) -> 1", "alone(2) -> 1", "next(1, 0) -> 1", "next(2, 0) -> 0",
                "end(1) -> 1", "next(2, 0) -> 2");
    }

    private static void nothingRunsThatIsAlone() {
        Sentence s = Sentence.of("nothing runs that is to be alone");
        s.anew(3, 0).rows("cls(2, 0, 1) -> 1", "cls(3, 0, 2) -> 1", "job(0, 0, 0, 0) -> 1", "job(1, 0, 1, 0) -> 2",
                "job(2, 0, 2, 0) -> 3", "alone(1) -> 1", "next(2, 0) -> 2", "next(1, 0) -> 0", "next(3, 0) -> 3",
                "end(2) -> 1", "end(3) -> 1", "next(1, 0) -> 1", "job(1, 15, 3, 0) -> 4", "job(2, 15, 4, 0) -> 5",
                "next(2, 0) -> 0", "next(3, 0) -> 0", "end(1) -> 1", "next(2, 0) -> 4", "next(3, 0) -> 5");
    }

    private static void firstClassInItsList() {
        Sentence s = Sentence.of("of the first class in its list of which any may start");
        s.anew(2, 5).rows("cls(1, 1, 6) -> 1", "cls(1, 7, 4) -> 1", "cls(2, 0, 6) -> 1", "cls(2, 1, 5) -> 1",
                "job(4, 15, 0, 0) -> 1", "job(6, 14, 1, 0) -> 2", "job(6, 15, 2, 0) -> 3", "job(5, 0, 3, 0) -> 4",
                "job(5, 1, 4, 0) -> 5", "next(1, 0) -> 5", "next(2, 0) -> 3", "end(5) -> 1", "limit(5, 0) -> 1",
                "next(1, 0) -> 2", "end(2) -> 1", "next(1, 0) -> 1", "end(1) -> 1", "next(1, 0) -> 0",
                "limit(5, 1) -> 1", "end(3) -> 1", "next(2, 0) -> 4");
    }

    private static void greatestPriority() {
        Sentence s = Sentence.of("of those the one whose priority now is greatest");
        s.anew(1, 0);
        int[] priorities = {7, 0, 15, 3, 12, 1, 14, 8, 2, 13, 4, 11, 5, 10, 6, 9};
        for (int k = 0; k < 16; k++) {
            s.due("job(0, " + priorities[k] + ", " + k + ", 0)", k + 1);
        }
        for (int priority = 15; priority >= 0; priority--) {
            for (int k = 0; k < 16; k++) {
                if (priorities[k] == priority) {
                    s.due("order(0)", k + 1).due("next(1, 0)", k + 1).due("end(" + (k + 1) + ")", 1);
                }
            }
        }
        s.anew(1, 0).rows("age(10, 15) -> 1", "job(0, 0, 0, 0) -> 1", "job(0, 2, 1, 15) -> 2", "hold(1, true) -> 1",
                "hold(1, false) -> 1", "next(1, 19) -> 2", "end(2) -> 1", "job(0, 2, 2, 20) -> 3", "next(1, 20) -> 1");
    }

    private static void arrivedFirst() {
        Sentence s = Sentence.of("of equal ones the one that arrived first");
        s.anew(1, 0).jobs(100, 0, 0);
        for (int n = 1; n <= 100; n++) {
            s.due("order(0)", n).due("next(1, 0)", n).due("end(" + n + ")", 1);
        }
        s.anew(1, 0).rows("age(1, 3) -> 1", "job(0, 0, 0, 0) -> 1", "job(0, 3, 1, 0) -> 2", "job(0, 2, 2, 5) -> 3",
                "next(1, 6) -> 1", "end(1) -> 1", "next(1, 6) -> 2", "end(2) -> 1", "next(1, 6) -> 3");
    }

    private static void noSuchIsToldFirst() {
        Sentence s = Sentence.of("of several the one that is told first here: -2 ahead of -4 and -5");
        s.anew(1, 0).jobs(2, 0, 10);
        s.rows("cls(2, 8, 36) -> -2", "cls(0, -1, -2) -> -2", "next(2, 9) -> -2", "next(0, LMIN) -> -2",
                "uses(3, 4, 1001) -> -2", "uses(0, -1, -1) -> -2", "next(1, 10) -> 1", "needs(1, 3) -> -2",
                "needs(1, 0) -> -2", "needs(3, 1) -> -2", "end(1) -> 1", "needs(1, 3) -> -2", "needs(1, MIN) -> -2");
    }

    private static void outsideAheadOfState() {
        Sentence s = Sentence.of("of several the one that is told first here: -4 ahead of -5");
        s.anew(2, 0).jobs(1, 0, 10);
        s.rows("drain(2, true) -> 1", "next(2, 9) -> -4", "next(2, 10) -> -5", "next(2, 11) -> -5", "next(1, 10) -> 1",
                "next(1, 9) -> -4", "next(1, 10) -> -5", "next(1, 11) -> -5", "uses(1, 4, 0) -> -4",
                "uses(1, -1, 0) -> -4", "uses(1, 0, 1001) -> -4", "uses(1, 0, -1) -> -4", "uses(1, 0, 0) -> -5",
                "uses(1, 3, 1000) -> -5", "end(1) -> 1", "uses(1, 4, 0) -> -4", "uses(1, 0, 1001) -> -4",
                "uses(1, 0, 0) -> -5");
    }

    private static void outsideAheadOfNoRoom() {
        Sentence s = Sentence.of("of several the one that is told first here: -4 ahead of NONE");
        s.anew().jobs(100, 0, 10);
        s.rows("job(36, 0, 0, 10) -> -4", "job(-1, 0, 0, 10) -> -4", "job(0, 16, 0, 10) -> -4",
                "job(0, -1, 0, 10) -> -4", "job(0, 0, 100, 10) -> -4", "job(0, 0, -1, 10) -> -4",
                "job(0, 0, 0, 9) -> -4", "job(0, 0, 0, 10) -> -1", "job(0, 0, 0, 11) -> -1");
    }

    private static void refusedChangesNothing() {
        Sentence s = Sentence.of("What is refused changes nothing.");
        busy(s);
        s.rows("cls(0, 0, 1) -> -2", "cls(5, 0, 1) -> -2", "cls(1, -1, 1) -> -4", "cls(1, 8, 1) -> -4",
                "cls(1, 0, 36) -> -4", "cls(1, 1, -2) -> -4", "limit(-1, 0) -> -4", "limit(36, 0) -> -4",
                "limit(0, -1) -> -4", "limit(0, 41) -> -4", "limit(1, MAX) -> -4", "window(-1, 1, 2) -> -4",
                "window(36, 1, 2) -> -4", "window(0, -1, 2) -> -4", "window(0, 1440, 2) -> -4",
                "window(0, 1, -1) -> -4", "window(0, 1, 1440) -> -4", "window(1, 0, 1440) -> -4");
        s.rows("job(-1, 0, 0, 150) -> -4", "job(36, 0, 0, 150) -> -4", "job(0, -1, 0, 150) -> -4",
                "job(0, 16, 0, 150) -> -4", "job(0, 0, -1, 150) -> -4", "job(0, 0, 100, 150) -> -4",
                "job(0, 0, 0, 99) -> -4", "job(0, 0, 0, -1) -> -4", "needs(0, 1) -> -2", "needs(5, 0) -> -2",
                "needs(5, 13) -> -2", "needs(13, 5) -> -2", "needs(1, 5) -> -5", "needs(2, 5) -> -5",
                "needs(5, 5) -> 0", "needs(7, 8) -> 0", "needs(7, 9) -> 0", "units(-1, 5) -> -4",
                "units(4, 5) -> -4", "units(0, -1) -> -4", "units(0, 1001) -> -4");
        s.rows("uses(0, 0, 1) -> -2", "uses(13, 0, 1) -> -2", "uses(5, -1, 1) -> -4", "uses(5, 4, 1) -> -4",
                "uses(5, 0, -1) -> -4", "uses(5, 0, 1001) -> -4", "uses(1, 0, 1) -> -5", "uses(2, 0, 1) -> -5",
                "alone(0) -> -2", "alone(13) -> -2", "alone(1) -> -5", "alone(2) -> -5", "hold(0, true) -> -2",
                "hold(13, true) -> -2", "hold(1, true) -> -5", "hold(2, true) -> -5", "hold(1, false) -> -5",
                "hold(2, false) -> -5", "hold(6, true) -> 0", "hold(5, false) -> 0");
        s.rows("next(0, 150) -> -2", "next(5, 150) -> -2", "next(1, 150) -> -5", "next(3, 150) -> -5",
                "next(4, 99) -> -4", "next(4, LMIN) -> -4", "end(0) -> -2", "end(13) -> -2", "end(2) -> -5",
                "end(5) -> -5", "end(6) -> -5", "end(7) -> -5", "age(-1, 15) -> -4", "age(LMIN, 15) -> -4",
                "age(1, -1) -> -4", "age(1, 16) -> -4", "drain(0, true) -> -2", "drain(5, true) -> -2",
                "drain(0, false) -> -2", "drain(3, true) -> 0", "drain(1, false) -> 0", "weight(-1, 9) -> -4",
                "weight(36, 9) -> -4", "weight(0, -1) -> -4", "weight(0, 1001) -> -4");
    }

    private static void askingChangesNothing() {
        Sentence s = Sentence.of("share, order, waited, state and count tell, and change nothing");
        busy(s);
        for (String call : new String[] {
            "share(0, 10)", "share(35, LMAX)", "share(36, 1)", "share(0, -1)", "order(-1)", "order(0)", "order(3)",
            "order(99)", "waited(0)", "waited(1)", "waited(2)", "waited(5)", "waited(13)", "state(0)", "state(1)",
            "state(2)", "state(5)", "state(6)", "state(13)", "count(-1)", "count(0)", "count(1)", "count(2)",
            "count(3)", "count(4)", "count(5)", "count(6)", "count(9)", "count(10)", "count(13)", "count(14)"}) {
            s.unseen(call);
        }
        s.anew().unseen("share(0, 1)").due("share(0, 1)", "throws.ArithmeticException");
    }

    /** An object at minute 100 in which something of everything is set; job 2 has ended, 1 and 10 run. */
    private static void busy(Sentence s) {
        s.anew(4, 0).rows("cls(1, 1, 1) -> 1", "cls(2, 7, 35) -> 1", "cls(4, 0, 35) -> 1", "cls(4, 1, 1) -> 1",
                "limit(0, 3) -> 1", "limit(1, 1) -> 1", "window(0, 90, 600) -> 1", "window(1, 1200, 300) -> 1",
                "weight(0, 3) -> 1", "weight(1, 5) -> 1", "weight(35, 7) -> 1", "units(0, 10) -> 1",
                "units(3, 1000) -> 1", "age(10, 9) -> 1");
        s.rows("job(0, 5, 1, 81) -> 1", "job(0, 9, 2, 82) -> 2", "job(1, 4, 3, 83) -> 3", "job(35, 1, 2, 84) -> 4",
                "job(0, 3, 5, 85) -> 5", "job(0, 15, 6, 86) -> 6", "job(1, 7, 1, 87) -> 7", "job(1, 8, 8, 88) -> 8",
                "job(35, 0, 9, 89) -> 9", "job(0, 2, 2, 90) -> 10", "job(35, 3, 11, 91) -> 11",
                "job(1, 6, 12, 92) -> 12");
        s.rows("uses(1, 0, 3) -> 1", "uses(2, 0, 4) -> 1", "uses(5, 0, 8) -> 1", "uses(6, 3, 1000) -> 1",
                "needs(8, 7) -> 1", "needs(9, 8) -> 1", "needs(10, 2) -> 1", "alone(11) -> 1", "hold(6, true) -> 1",
                "hold(12, true) -> 1", "next(1, 95) -> 2", "end(2) -> 1", "next(1, 96) -> 1", "next(2, 100) -> 10",
                "drain(3, true) -> 1");
    }

    private static void atMost512Calls() {
        Sentence s = Sentence.of("An object is used for at most 512 calls after it has been made");
        s.anew(12, 0).jobs(100, 0, 0);
        for (int n = 2; n <= 100; n++) {
            s.due("needs(" + n + ", " + (n - 1) + ")", 1);
        }
        for (int n = 1; n <= 100; n++) {
            s.due("next(" + (n % 12 + 1) + ", " + n + ")", n).due("end(" + n + ")", 1);
        }
        while (s.calls() < 511) {
            s.due("waited(" + (s.calls() % 100 + 1) + ")", s.calls() % 100 + 1);
        }
        s.due("count(2)", 0);
    }
}
