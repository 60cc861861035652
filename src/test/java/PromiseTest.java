/** Each promise of the document by ordinary inputs, its edges, and wrong inputs. */
public final class PromiseTest {
    private static final int MIN = Integer.MIN_VALUE;
    private static final int MAX = Integer.MAX_VALUE;
    private static final long LONG_MAX = Long.MAX_VALUE;

    private static int promise = 0;
    private static int wrong = 0;

    public static void main(String[] args) {
        newObject();
        initiator();
        cls();
        limit();
        limitCountsEachClass();
        windowInTheDay();
        windowOverMidnight();
        windowRefused();
        job();
        jobRefused();
        jobNoRoom();
        needs();
        needsAtDepth();
        needsOfJoinedChains();
        needsRefused();
        units();
        unitsFewerThanUsed();
        uses();
        usesRefused();
        alone();
        hold();
        nextByList();
        nextByPriorityAndArrival();
        nextTime();
        nextRefused();
        nextName();
        nextNamesApart();
        end();
        age();
        ageNeverBelowOwn();
        ageRefused();
        drain();
        weight();
        share();
        shareRemainders();
        shareOfGreatAmounts();
        shareRefused();
        order();
        waited();
        state();
        count();
        countOthers();
        System.out.println(wrong == 0 ? "all answers are as due" : wrong + " answers are not as due");
        if (wrong != 0) {
            System.exit(1);
        }
    }

    private static void newObject() {
        promise = 1;
        InitiatorRows x = new InitiatorRows();
        for (int what = 0; what <= 5; what++) {
            due("count(" + what + ")", x.count(what), 0);
        }
        due("order(0)", x.order(0), -1);
        due("state(1)", x.state(1), -1);
        due("next(1, 0)", x.next(1, 0), -2);
        due("share(0, 1) throws", shareThrows(x, 0, 1) ? 1 : 0, 1);
        InitiatorRows y = rows(1, 0);
        y.job(0, 0, 1, 0);
        y.job(0, 1, 2, 0);
        due("no ageing at first", y.next(1, 1000000), 2);
        due("objects stand apart", new InitiatorRows().count(1), 0);
    }

    private static void initiator() {
        promise = 2;
        InitiatorRows x = new InitiatorRows();
        for (int n = 1; n <= 12; n++) {
            due("initiator()", x.initiator(), n);
        }
        due("initiator() when there are 12", x.initiator(), -1);
        due("count(0)", x.count(0), 12);
        x.job(0, 0, 0, 0);
        due("a new list is empty", x.next(12, 0), 0);
    }

    private static void cls() {
        promise = 3;
        InitiatorRows x = new InitiatorRows();
        due("cls without initiators", x.cls(1, 0, 0), -2);
        x.initiator();
        due("cls(0, 0, 0)", x.cls(0, 0, 0), -2);
        due("cls(-1, 0, 0)", x.cls(-1, 0, 0), -2);
        due("cls(2, 9, 99)", x.cls(2, 9, 99), -2);
        due("cls(MIN, 0, 0)", x.cls(MIN, 0, 0), -2);
        due("cls(1, -1, 0)", x.cls(1, -1, 0), -4);
        due("cls(1, 8, 0)", x.cls(1, 8, 0), -4);
        due("cls(1, 0, 36)", x.cls(1, 0, 36), -4);
        due("cls(1, 0, -2)", x.cls(1, 0, -2), -4);
        due("cls(1, MAX, MIN)", x.cls(1, MAX, MIN), -4);
        due("cls(1, 0, 35)", x.cls(1, 0, 35), 1);
        due("cls(1, 7, 0)", x.cls(1, 7, 0), 1);
        x.job(0, 15, 0, 0);
        x.job(35, 0, 1, 0);
        due("the place 0 is first", x.next(1, 0), 2);
        x.end(2);
        due("the place 7 is last", x.next(1, 0), 1);
        x.end(1);
        x.job(0, 15, 0, 0);
        due("cls(1, 7, NONE)", x.cls(1, 7, -1), 1);
        due("a place made empty", x.next(1, 0), 0);
        due("cls(1, 7, 0) again", x.cls(1, 7, 0), 1);
        due("a refused cls changes nothing", x.cls(1, 7, 36), -4);
        due("the class is still there", x.next(1, 0), 3);
    }

    private static void limit() {
        promise = 4;
        InitiatorRows x = rows(12, 3);
        for (int n = 0; n < 12; n++) {
            x.job(3, 0, n, 0);
        }
        due("limit(3, 0)", x.limit(3, 0), 1);
        due("none of the class may run", x.next(1, 0), 0);
        due("limit(3, 2)", x.limit(3, 2), 1);
        due("the first", x.next(1, 0), 1);
        due("the second", x.next(2, 0), 2);
        due("no third", x.next(3, 0), 0);
        due("limit(3, 1)", x.limit(3, 1), 1);
        due("running ones go on", x.count(4), 2);
        x.end(1);
        due("the limit is reached", x.next(1, 0), 0);
        due("limit(3, 40)", x.limit(3, 40), 1);
        for (int n = 3; n <= 12; n++) {
            due("up to the greatest limit", x.next(n, 0), n);
        }
        due("limit(-1, 0)", x.limit(-1, 0), -4);
        due("limit(36, 0)", x.limit(36, 0), -4);
        due("limit(0, -1)", x.limit(0, -1), -4);
        due("limit(0, 41)", x.limit(0, 41), -4);
        due("limit(MIN, MAX)", x.limit(MIN, MAX), -4);
        due("limit(35, 40)", x.limit(35, 40), 1);
        due("limit(0, 0)", x.limit(0, 0), 1);
    }

    private static void limitCountsEachClass() {
        InitiatorRows x = rows(3, 0);
        x.cls(3, 0, 1);
        x.limit(0, 1);
        x.job(0, 0, 0, 0);
        x.job(0, 0, 1, 0);
        x.job(1, 0, 2, 0);
        due("class 0", x.next(1, 0), 1);
        due("class 0 is full", x.next(2, 0), 0);
        due("class 1 has its own limit", x.next(3, 0), 3);
        due("a refused limit changes nothing", x.limit(0, 41), -4);
        due("class 0 is still full", x.next(2, 0), 0);
    }

    private static void windowInTheDay() {
        promise = 5;
        InitiatorRows x = rows(1, 0);
        due("window(0, 480, 600)", x.window(0, 480, 600), 1);
        for (int n = 0; n < 4; n++) {
            x.job(0, 0, n, 0);
        }
        due("ahead of it", x.next(1, 479), 0);
        due("its first minute", x.next(1, 480), 1);
        x.end(1);
        due("its last minute", x.next(1, 599), 2);
        x.end(2);
        due("behind it", x.next(1, 600), 0);
        due("ahead of it on the next day", x.next(1, 1440 + 479), 0);
        due("in it on the next day", x.next(1, 1440 + 480), 3);
        x.end(3);
        due("behind it then", x.next(1, 1440 + 600), 0);
        due("window(0, 700, 700)", x.window(0, 700, 700), 1);
        due("all day", x.next(1, 1440 + 699), 4);
    }

    private static void windowOverMidnight() {
        InitiatorRows x = rows(1, 0);
        due("window(0, 1380, 60)", x.window(0, 1380, 60), 1);
        for (int n = 0; n < 5; n++) {
            x.job(0, 0, n, 0);
        }
        due("minute 0", x.next(1, 0), 1);
        x.end(1);
        due("minute 59", x.next(1, 59), 2);
        x.end(2);
        due("minute 60", x.next(1, 60), 0);
        due("minute 1379", x.next(1, 1379), 0);
        due("minute 1380", x.next(1, 1380), 3);
        x.end(3);
        due("minute 1439", x.next(1, 1439), 4);
        x.end(4);
        due("minute 0 of the next day", x.next(1, 1440), 5);
        InitiatorRows y = rows(1, 0);
        y.window(0, 1087, 1088);
        y.job(0, 0, 0, 0);
        due("the minute ahead of the last that a long tells", y.next(1, LONG_MAX - 1), 0);
        due("the last, which is 1087 of its day", y.next(1, LONG_MAX), 1);
    }

    private static void windowRefused() {
        InitiatorRows x = rows(1, 0);
        due("window(-1, 0, 0)", x.window(-1, 0, 0), -4);
        due("window(36, 0, 0)", x.window(36, 0, 0), -4);
        due("window(0, -1, 0)", x.window(0, -1, 0), -4);
        due("window(0, 1440, 0)", x.window(0, 1440, 0), -4);
        due("window(0, 0, -1)", x.window(0, 0, -1), -4);
        due("window(0, 0, 1440)", x.window(0, 0, 1440), -4);
        due("window(35, 1439, 1439)", x.window(35, 1439, 1439), 1);
        due("window(0, 5, 6)", x.window(0, 5, 6), 1);
        due("window(0, 0, 1440)", x.window(0, 0, 1440), -4);
        x.job(0, 0, 0, 0);
        due("a refused window changes nothing", x.next(1, 4), 0);
        due("the window is still there", x.next(1, 5), 1);
    }

    private static void job() {
        promise = 6;
        InitiatorRows x = rows(1, 35);
        due("job(0, 0, 0, 0)", x.job(0, 0, 0, 0), 1);
        due("job(35, 15, 99, 7)", x.job(35, 15, 99, 7), 2);
        due("the time is 7", x.waited(1), 7);
        due("job at the same time", x.job(35, 15, 98, 7), 3);
        due("time back", x.job(0, 0, 0, 6), -4);
        due("next with time back", x.next(1, 6), -4);
        due("it waits", x.state(2), 0);
        due("of class 35", x.next(1, 7), 2);
        due("a job at the last time", x.job(0, 0, 0, LONG_MAX), 4);
        due("time back from there", x.job(0, 0, 0, LONG_MAX - 1), -4);
    }

    private static void jobRefused() {
        InitiatorRows x = new InitiatorRows();
        due("job(-1, 0, 0, 9)", x.job(-1, 0, 0, 9), -4);
        due("job(36, 0, 0, 9)", x.job(36, 0, 0, 9), -4);
        due("job(0, -1, 0, 9)", x.job(0, -1, 0, 9), -4);
        due("job(0, 16, 0, 9)", x.job(0, 16, 0, 9), -4);
        due("job(0, 0, -1, 9)", x.job(0, 0, -1, 9), -4);
        due("job(0, 0, 100, 9)", x.job(0, 0, 100, 9), -4);
        due("job(0, 0, 0, -1)", x.job(0, 0, 0, -1), -4);
        due("job(MIN, MAX, MIN, Long.MIN)", x.job(MIN, MAX, MIN, Long.MIN_VALUE), -4);
        due("no job is there", x.count(1), 0);
        due("the time stayed", x.job(0, 0, 0, 8), 1);
    }

    private static void jobNoRoom() {
        InitiatorRows x = rows(1, 0);
        for (int n = 1; n <= 100; n++) {
            due("job " + n, x.job(0, 0, n - 1, 5), n);
        }
        due("no room", x.job(0, 0, 0, 9), -1);
        due("a number outside is told ahead of no room", x.job(36, 0, 0, 9), -4);
        due("time back is told ahead of no room", x.job(0, 0, 0, 4), -4);
        due("the time stayed", x.waited(1), 0);
        due("next(1, 9)", x.next(1, 9), 1);
        due("end(1)", x.end(1), 1);
        due("ended ones take room too", x.job(0, 0, 0, 9), -1);
        due("count(1)", x.count(1), 100);
    }

    private static void needs() {
        promise = 7;
        InitiatorRows x = rows(2, 0);
        x.job(0, 5, 1, 0);
        x.job(0, 1, 2, 0);
        x.job(0, 0, 3, 0);
        due("needs(1, 2)", x.needs(1, 2), 1);
        due("needs(1, 3)", x.needs(1, 3), 1);
        due("needs(1, 2) again", x.needs(1, 2), 1);
        due("job 1 waits for the others", x.next(1, 0), 2);
        due("job 1 still waits", x.next(2, 0), 3);
        x.end(2);
        due("one of two has ended", x.next(1, 0), 0);
        x.end(3);
        due("both have ended", x.next(1, 0), 1);
        due("a running one", x.needs(1, 2), -5);
        due("a running one and itself", x.needs(1, 1), -5);
        x.end(1);
        due("an ended one", x.needs(1, 2), -5);
        x.job(0, 0, 4, 0);
        due("to need one that has ended", x.needs(4, 1), 1);
        due("it may start", x.next(1, 0), 4);
    }

    private static void needsAtDepth() {
        InitiatorRows x = rows(1, 0);
        for (int n = 1; n <= 100; n++) {
            x.job(0, 0, n - 1, 0);
        }
        for (int n = 1; n < 100; n += 2) {
            due("pairs", x.needs(n + 1, n), 1);
        }
        for (int n = 2; n < 100; n += 2) {
            due("pairs joined", x.needs(n + 1, n), 1);
        }
        due("itself", x.needs(64, 64), 0);
        due("one that needs it", x.needs(1, 2), 0);
        due("at depth 99", x.needs(1, 100), 0);
        due("around the middle", x.needs(63, 65), 0);
        due("forward at depth", x.needs(100, 1), 1);
        for (int n = 1; n <= 100; n++) {
            due("one by one", x.next(1, 0), n);
            due("ends", x.end(n), 1);
        }
        InitiatorRows y = rows(1, 0);
        y.job(0, 0, 1, 0);
        y.job(0, 9, 2, 0);
        y.hold(1, true);
        due("a held one", y.needs(1, 2), 1);
        due("0 changes nothing", y.needs(2, 1), 0);
        due("job 2 may start", y.next(1, 0), 2);
    }

    /** Two chains that are joined last, from the late numbers to the early ones and back. */
    private static void needsOfJoinedChains() {
        InitiatorRows x = rows(1, 0);
        for (int n = 1; n <= 100; n++) {
            x.job(0, 0, n - 1, 0);
        }
        due("70 needs 90", x.needs(70, 90), 1);
        due("90 needs 64", x.needs(90, 64), 1);
        due("3 needs 2", x.needs(3, 2), 1);
        due("2 needs 70", x.needs(2, 70), 1);
        int[] chain = {3, 2, 70, 90, 64};
        for (int from = 0; from < chain.length; from++) {
            for (int to = 0; to <= from; to++) {
                due("needs(" + chain[from] + ", " + chain[to] + ")", x.needs(chain[from], chain[to]), 0);
            }
        }
        due("1 may start", x.next(1, 0), 1);
        x.end(1);
        due("2 and 3 may not", x.next(1, 0), 4);
    }

    private static void needsRefused() {
        InitiatorRows x = rows(1, 0);
        x.job(0, 0, 1, 0);
        due("needs(2, 1)", x.needs(2, 1), -2);
        due("needs(1, 2)", x.needs(1, 2), -2);
        due("needs(0, 1)", x.needs(0, 1), -2);
        due("needs(1, 0)", x.needs(1, 0), -2);
        due("needs(MIN, MAX)", x.needs(MIN, MAX), -2);
        x.next(1, 0);
        due("no such other ahead of not in this state", x.needs(1, 2), -2);
    }

    private static void units() {
        promise = 8;
        InitiatorRows x = rows(2, 0);
        x.job(0, 0, 1, 0);
        x.uses(1, 3, 1000);
        due("no units at first", x.next(1, 0), 0);
        due("units(3, 999)", x.units(3, 999), 1);
        due("one too few", x.next(1, 0), 0);
        due("units(3, 1000)", x.units(3, 1000), 1);
        due("just enough", x.next(1, 0), 1);
        due("units(3, 0)", x.units(3, 0), 1);
        due("the running one goes on", x.state(1), 2);
        due("its units too", x.count(13), 1000);
        due("units(-1, 0)", x.units(-1, 0), -4);
        due("units(4, 0)", x.units(4, 0), -4);
        due("units(0, -1)", x.units(0, -1), -4);
        due("units(0, 1001)", x.units(0, 1001), -4);
        due("units(MAX, MIN)", x.units(MAX, MIN), -4);
        due("units(0, 0)", x.units(0, 0), 1);
    }

    private static void unitsFewerThanUsed() {
        InitiatorRows x = rows(2, 0);
        x.units(0, 5);
        x.job(0, 0, 1, 0);
        x.job(0, 0, 2, 0);
        x.uses(1, 0, 5);
        due("the first runs", x.next(1, 0), 1);
        x.units(0, 4);
        due("more is in use than there is", x.next(2, 0), 0);
        due("refused", x.units(0, 1001), -4);
        due("a refused one changes nothing", x.next(2, 0), 0);
        x.units(0, 5);
        due("a job that uses none", x.next(2, 0), 2);
    }

    private static void uses() {
        promise = 9;
        InitiatorRows x = rows(3, 0);
        for (int kind = 0; kind < 4; kind++) {
            x.units(kind, 10);
        }
        x.job(0, 0, 1, 0);
        x.job(0, 0, 2, 0);
        x.job(0, 0, 3, 0);
        due("uses(1, 2, 6)", x.uses(1, 2, 6), 1);
        due("uses(2, 2, 5)", x.uses(2, 2, 5), 1);
        due("uses(3, 2, 4)", x.uses(3, 2, 4), 1);
        due("uses(3, 0, 10)", x.uses(3, 0, 10), 1);
        due("6 of 10", x.next(1, 0), 1);
        due("5 more are too many, 4 are not", x.next(2, 0), 3);
        due("count(12)", x.count(12), 10);
        due("count(10)", x.count(10), 10);
        due("none is left", x.next(3, 0), 0);
        x.end(1);
        due("given back", x.count(12), 4);
        due("there is room for 5", x.next(1, 0), 2);
        due("count(12)", x.count(12), 9);
        x.job(0, 0, 4, 0);
        x.uses(4, 2, 2);
        due("2 are too many", x.next(3, 0), 0);
        due("a new number in place of the old", x.uses(4, 2, 1), 1);
        due("1 is not", x.next(3, 0), 4);
    }

    private static void usesRefused() {
        InitiatorRows x = rows(1, 0);
        x.job(0, 0, 1, 0);
        due("uses(2, 9, 9999)", x.uses(2, 9, 9999), -2);
        due("uses(0, 0, 0)", x.uses(0, 0, 0), -2);
        due("uses(MIN, 0, 0)", x.uses(MIN, 0, 0), -2);
        due("uses(1, -1, 0)", x.uses(1, -1, 0), -4);
        due("uses(1, 4, 0)", x.uses(1, 4, 0), -4);
        due("uses(1, 0, -1)", x.uses(1, 0, -1), -4);
        due("uses(1, 0, 1001)", x.uses(1, 0, 1001), -4);
        due("refused ones change nothing", x.next(1, 0), 1);
        due("a running one", x.uses(1, 0, 1), -5);
        due("a running one, a number outside", x.uses(1, 4, 1), -4);
        due("it uses none", x.count(10), 0);
        x.end(1);
        due("an ended one", x.uses(1, 0, 1), -5);
        x.job(0, 0, 1, 0);
        x.hold(2, true);
        due("a held one", x.uses(2, 0, 1), 1);
    }

    private static void alone() {
        promise = 10;
        InitiatorRows x = rows(3, 0);
        x.cls(3, 0, 1);
        x.job(0, 0, 1, 0);
        x.job(0, 0, 2, 0);
        x.job(1, 9, 3, 0);
        due("alone(2)", x.alone(2), 1);
        due("alone(2) again", x.alone(2), 1);
        due("the first", x.next(1, 0), 1);
        due("not beside it", x.next(2, 0), 0);
        x.end(1);
        due("now it is alone", x.next(2, 0), 2);
        due("nothing beside it, of another class too", x.next(3, 0), 0);
        due("a running one", x.alone(2), -5);
        x.end(2);
        due("then others", x.next(3, 0), 3);
        due("an ended one", x.alone(2), -5);
        due("alone(0)", x.alone(0), -2);
        due("alone(4)", x.alone(4), -2);
        due("alone(MIN)", x.alone(MIN), -2);
        x.job(0, 0, 4, 0);
        x.hold(4, true);
        due("a held one", x.alone(4), 1);
    }

    private static void hold() {
        promise = 11;
        InitiatorRows x = rows(1, 0);
        x.job(0, 9, 1, 0);
        x.job(0, 0, 2, 0);
        due("hold(1, false)", x.hold(1, false), 0);
        due("hold(1, true)", x.hold(1, true), 1);
        due("hold(1, true) again", x.hold(1, true), 0);
        due("state(1)", x.state(1), 1);
        due("a held one doesn't start", x.next(1, 0), 2);
        due("a running one", x.hold(2, true), -5);
        due("a running one, not to be held", x.hold(2, false), -5);
        x.end(2);
        due("an ended one", x.hold(2, true), -5);
        due("only a held one is left", x.next(1, 0), 0);
        due("hold(1, false)", x.hold(1, false), 1);
        due("state(1)", x.state(1), 0);
        due("it starts", x.next(1, 0), 1);
        due("hold(0, true)", x.hold(0, true), -2);
        due("hold(3, false)", x.hold(3, false), -2);
        due("hold(MIN, false)", x.hold(MIN, false), -2);
    }

    private static void nextByList() {
        promise = 12;
        InitiatorRows x = rows(1, 4);
        x.cls(1, 3, 2);
        x.cls(1, 5, 9);
        x.job(9, 15, 1, 0);
        x.job(2, 10, 2, 0);
        x.job(4, 0, 3, 0);
        x.job(7, 15, 4, 0);
        x.hold(3, true);
        due("a class of which none may start is passed over", x.next(1, 0), 2);
        x.end(2);
        x.hold(3, false);
        due("the list is ahead of priority", x.next(1, 0), 3);
        x.end(3);
        due("the last class in the list", x.next(1, 0), 1);
        x.end(1);
        due("a class that is not in the list", x.next(1, 0), 0);
    }

    private static void nextByPriorityAndArrival() {
        InitiatorRows x = rows(1, 0);
        x.job(0, 3, 1, 0);
        x.job(0, 7, 2, 0);
        x.job(0, 7, 3, 0);
        x.job(0, 3, 4, 1);
        int[] due = {2, 3, 1, 4};
        for (int n : due) {
            due("by priority, then arrival", x.next(1, 1), n);
            x.end(n);
        }
        due("none is left", x.next(1, 1), 0);
    }

    private static void nextTime() {
        InitiatorRows x = rows(2, 0);
        x.job(1, 0, 1, 10);
        due("none may start", x.next(1, 25), 0);
        due("the time is 25 all the same", x.waited(1), 15);
        x.drain(1, true);
        due("drained", x.next(1, 30), -5);
        due("the time stays", x.waited(1), 15);
        x.cls(2, 0, 1);
        due("it starts", x.next(2, 40), 1);
        due("waited(1)", x.waited(1), 30);
        x.job(0, 0, 2, 40);
        due("it runs one", x.next(2, 50), -5);
        due("the time stays", x.waited(2), 0);
    }

    private static void nextRefused() {
        InitiatorRows x = rows(1, 0);
        x.job(0, 0, 1, 10);
        due("next(0, 10)", x.next(0, 10), -2);
        due("next(2, 5)", x.next(2, 5), -2);
        due("next(MAX, 10)", x.next(MAX, 10), -2);
        due("next(MIN, 10)", x.next(MIN, 10), -2);
        due("time back", x.next(1, 9), -4);
        due("time back below 0", x.next(1, Long.MIN_VALUE), -4);
        x.drain(1, true);
        due("time back ahead of drained", x.next(1, 9), -4);
        due("no such initiator moves no time", x.next(2, 99), -2);
        x.drain(1, false);
        due("it starts", x.next(1, 10), 1);
        due("time back ahead of running one", x.next(1, 9), -4);
        due("it runs one", x.next(1, 10), -5);
    }

    private static void nextName() {
        InitiatorRows x = rows(3, 0);
        x.cls(3, 0, 1);
        x.job(0, 9, 99, 0);
        x.job(0, 8, 99, 0);
        x.job(0, 0, 98, 0);
        x.job(1, 0, 99, 0);
        due("the first of the name", x.next(1, 0), 1);
        due("another name", x.next(2, 0), 3);
        due("the name in another class", x.next(3, 0), 0);
        x.end(1);
        due("the name is free again", x.next(3, 0), 4);
        due("and in use again", x.next(1, 0), 0);
        x.end(4);
        due("and free again", x.next(1, 0), 2);
    }

    private static void nextNamesApart() {
        int[] names = {0, 1, 31, 32, 33, 62, 63, 64, 65, 95, 96, 99};
        InitiatorRows x = rows(12, 0);
        for (int k = 0; k < 24; k++) {
            x.job(0, 0, names[k % 12], 0);
        }
        for (int n = 1; n <= 12; n++) {
            due("all names run together", x.next(n, 0), n);
        }
        for (int n = 1; n <= 12; n++) {
            x.end(n);
            due("only the name that ended is free", x.next(n, 0), 12 + n);
        }
    }

    private static void end() {
        promise = 13;
        InitiatorRows x = rows(2, 0);
        x.job(0, 0, 1, 0);
        x.job(0, 0, 2, 0);
        due("a waiting one", x.end(1), -5);
        x.hold(1, true);
        due("a held one", x.end(1), -5);
        x.hold(1, false);
        x.next(1, 0);
        x.next(2, 0);
        due("a running one", x.end(1), 1);
        due("state(1)", x.state(1), 3);
        due("an ended one", x.end(1), -5);
        due("the other goes on", x.state(2), 2);
        due("its initiator is free", x.next(1, 0), 0);
        due("the other's is not", x.next(2, 0), -5);
        due("end(0)", x.end(0), -2);
        due("end(3)", x.end(3), -2);
        due("end(MIN)", x.end(MIN), -2);
    }

    private static void age() {
        promise = 14;
        InitiatorRows x = rows(1, 0);
        due("age(10, 15)", x.age(10, 15), 1);
        x.job(0, 0, 1, 0);
        x.job(0, 1, 2, 9);
        due("no whole per as yet", x.order(0), 2);
        x.next(1, 9);
        x.end(2);
        x.job(0, 2, 3, 19);
        due("1 and 2", x.order(0), 3);
        x.job(0, 0, 4, 20);
        due("2 and 2: the first", x.order(0), 1);
        due("its next", x.order(1), 3);
        x.job(0, 14, 5, 149);
        due("2 and 13 more", x.order(0), 3);
        due("0 and 14 more, ahead of 14 that came later", x.order(1), 1);
        due("14", x.order(2), 5);
        due("0 and 12 more", x.order(3), 4);
        x.job(0, 15, 6, 100000);
        due("all are at 15", x.order(0), 1);
        due("the last of them", x.order(4), 6);
        due("age(0, 15)", x.age(0, 15), 1);
        due("none any more", x.order(0), 6);
        due("then", x.order(1), 5);
        due("age(1, 0)", x.age(1, 0), 1);
        due("most 0 adds nothing", x.order(0), 6);
        due("and nothing to the last", x.order(4), 4);
    }

    private static void ageNeverBelowOwn() {
        InitiatorRows x = rows(1, 0);
        x.age(1, 5);
        x.job(0, 0, 1, 0);
        x.job(0, 9, 2, 0);
        x.job(0, 5, 3, 0);
        x.job(0, 6, 4, LONG_MAX);
        int[] due = {2, 4, 1, 3};
        for (int i = 0; i < due.length; i++) {
            due("up to most, and never below its own", x.order(i), due[i]);
        }
        for (int n : due) {
            due("next by the priority now", x.next(1, LONG_MAX), n);
            x.end(n);
        }
        InitiatorRows y = rows(1, 0);
        y.age(10, 15);
        y.job(0, 0, 1, 0);
        y.job(0, 3, 2, 0);
        y.hold(1, true);
        y.job(0, 4, 3, 50);
        y.hold(1, false);
        y.hold(2, true);
        due("held ones age too", y.next(1, 50), 1);
    }

    private static void ageRefused() {
        InitiatorRows x = rows(1, 0);
        due("age(-1, 0)", x.age(-1, 0), -4);
        due("age(0, -1)", x.age(0, -1), -4);
        due("age(0, 16)", x.age(0, 16), -4);
        due("age(Long.MIN, MIN)", x.age(Long.MIN_VALUE, MIN), -4);
        due("age(Long.MAX, 15)", x.age(LONG_MAX, 15), 1);
        x.job(0, 0, 1, 0);
        x.job(0, 1, 2, 10);
        due("refused", x.age(1, 16), -4);
        due("a refused age changes nothing", x.order(0), 2);
        x.next(1, LONG_MAX - 1);
        due("no whole per", x.state(2), 2);
        InitiatorRows y = rows(1, 0);
        y.age(LONG_MAX, 15);
        y.job(0, 0, 1, 0);
        y.job(0, 1, 2, 0);
        y.job(0, 1, 3, LONG_MAX);
        y.hold(2, true);
        due("the greatest per has passed once", y.order(0), 1);
    }

    private static void drain() {
        promise = 15;
        InitiatorRows x = rows(2, 0);
        x.job(0, 0, 1, 0);
        x.job(0, 0, 2, 0);
        due("drain(1, false)", x.drain(1, false), 0);
        x.next(1, 0);
        due("drain(1, true)", x.drain(1, true), 1);
        due("drain(1, true) again", x.drain(1, true), 0);
        due("its job goes on", x.state(1), 2);
        due("it runs one", x.count(5), 0);
        x.end(1);
        due("it is idle", x.count(5), 1);
        due("it starts none", x.next(1, 0), -5);
        due("another does", x.next(2, 0), 2);
        x.job(0, 0, 3, 0);
        due("drain(1, false)", x.drain(1, false), 1);
        due("it starts one", x.next(1, 0), 3);
        due("drain(0, true)", x.drain(0, true), -2);
        due("drain(3, false)", x.drain(3, false), -2);
        due("drain(MIN, true)", x.drain(MIN, true), -2);
    }

    private static void weight() {
        promise = 16;
        InitiatorRows x = new InitiatorRows();
        due("weight(0, 1)", x.weight(0, 1), 1);
        due("weight(35, 1000)", x.weight(35, 1000), 1);
        due("share(35, 1001)", x.share(35, 1001), 1000);
        due("weight(35, 3)", x.weight(35, 3), 1);
        due("share(35, 1000)", x.share(35, 1000), 750);
        due("weight(-1, 0)", x.weight(-1, 0), -4);
        due("weight(36, 0)", x.weight(36, 0), -4);
        due("weight(0, -1)", x.weight(0, -1), -4);
        due("weight(0, 1001)", x.weight(0, 1001), -4);
        due("weight(MIN, MAX)", x.weight(MIN, MAX), -4);
        due("refused ones change nothing", x.share(0, 1000), 250);
        due("weight(35, 0)", x.weight(35, 0), 1);
        due("all to one", x.share(0, 1000), 1000);
    }

    private static void share() {
        promise = 17;
        InitiatorRows x = weighted(1, 1, 1);
        shares(x, 9, 3, 3, 3, 0);
        shares(x, 10, 4, 3, 3, 0);
        shares(x, 11, 4, 4, 3, 0);
        shares(x, 1, 1, 0, 0, 0);
        shares(x, 0, 0, 0, 0, 0);
        InitiatorRows y = weighted(0, 1, 0, 1);
        shares(y, 3, 0, 2, 0, 1, 0);
    }

    private static void shareRemainders() {
        InitiatorRows x = weighted(1, 2, 4);
        shares(x, 8, 1, 2, 5);
        shares(x, 9, 1, 3, 5);
        shares(x, 10, 1, 3, 6);
        shares(x, 11, 2, 3, 6);
        InitiatorRows y = weighted(3, 5, 3, 5);
        shares(y, 1, 0, 1, 0, 0);
        shares(y, 2, 0, 1, 0, 1);
        shares(y, 3, 1, 1, 0, 1);
        InitiatorRows all = new InitiatorRows();
        for (int c = 0; c < 36; c++) {
            all.weight(c, 1000);
        }
        for (int c = 0; c < 36; c++) {
            due("share(" + c + ", 71)", all.share(c, 71), c < 35 ? 2 : 1);
        }
    }

    private static void shareOfGreatAmounts() {
        InitiatorRows x = weighted(1000);
        due("all to one", x.share(0, LONG_MAX), LONG_MAX);
        InitiatorRows y = weighted(1000, 999, 998);
        long sum = 0;
        for (int c = 0; c < 3; c++) {
            sum += y.share(c, LONG_MAX);
        }
        due("the shares are all", sum, LONG_MAX);
        due("share(0, Long.MAX)", y.share(0, LONG_MAX), 3077534880498757360L);
        due("share(1, Long.MAX)", y.share(1, LONG_MAX), 3074457345618258602L);
        due("share(2, Long.MAX)", y.share(2, LONG_MAX), 3071379810737759845L);
    }

    private static void shareRefused() {
        InitiatorRows x = new InitiatorRows();
        due("all weights are 0", shareThrows(x, 0, 10) ? 1 : 0, 1);
        due("and all is 0", shareThrows(x, 35, 0) ? 1 : 0, 1);
        due("no such class is told first", x.share(36, 10), -1);
        due("all below 0 is told first", x.share(0, -1), -1);
        x.weight(3, 1);
        due("share(-1, 10)", x.share(-1, 10), -1);
        due("share(36, 10)", x.share(36, 10), -1);
        due("share(MIN, 10)", x.share(MIN, 10), -1);
        due("share(3, -1)", x.share(3, -1), -1);
        due("share(3, Long.MIN)", x.share(3, Long.MIN_VALUE), -1);
        x.weight(3, 0);
        due("all weights are 0 again", shareThrows(x, 3, 10) ? 1 : 0, 1);
    }

    private static void order() {
        promise = 18;
        InitiatorRows x = rows(1, 0);
        x.job(0, 3, 1, 0);
        x.job(30, 15, 2, 0);
        x.job(0, 3, 3, 1);
        x.job(0, 0, 4, 2);
        x.job(0, 9, 5, 2);
        x.limit(30, 0);
        x.needs(5, 4);
        x.hold(3, true);
        orders(x, 2, 5, 1, 4);
        x.hold(3, false);
        orders(x, 2, 5, 1, 3, 4);
        x.next(1, 2);
        orders(x, 2, 5, 3, 4);
        x.end(1);
        orders(x, 2, 5, 3, 4);
        due("order(-1)", x.order(-1), -1);
        due("order(MIN)", x.order(MIN), -1);
        due("order(MAX)", x.order(MAX), -1);
    }

    private static void waited() {
        promise = 19;
        InitiatorRows x = rows(1, 0);
        x.job(0, 0, 1, 5);
        due("just arrived", x.waited(1), 0);
        x.job(0, 0, 2, 12);
        due("till now", x.waited(1), 7);
        x.hold(2, true);
        x.next(1, 20);
        due("till it ran", x.waited(1), 15);
        due("held, till now", x.waited(2), 8);
        x.job(1, 0, 3, 50);
        due("it stays while it runs", x.waited(1), 15);
        due("the held one goes on", x.waited(2), 38);
        x.end(1);
        x.job(1, 0, 4, LONG_MAX);
        due("it stays when it has ended", x.waited(1), 15);
        due("as long as a long tells", x.waited(3), LONG_MAX - 50);
        due("waited(0)", x.waited(0), -1);
        due("waited(5)", x.waited(5), -1);
        due("waited(MIN)", x.waited(MIN), -1);
        due("waited(MAX)", x.waited(MAX), -1);
    }

    private static void state() {
        promise = 20;
        InitiatorRows x = rows(1, 0);
        x.job(0, 0, 1, 0);
        due("it waits", x.state(1), 0);
        x.hold(1, true);
        due("it waits held", x.state(1), 1);
        x.hold(1, false);
        x.next(1, 0);
        due("it runs", x.state(1), 2);
        x.end(1);
        due("it has ended", x.state(1), 3);
        due("state(0)", x.state(0), -1);
        due("state(2)", x.state(2), -1);
        due("state(MIN)", x.state(MIN), -1);
        due("state(MAX)", x.state(MAX), -1);
    }

    private static void count() {
        promise = 21;
        InitiatorRows x = rows(4, 0);
        for (int n = 0; n < 7; n++) {
            x.job(0, 0, n, 0);
        }
        counts(x, 4, 7, 7, 0, 0, 0);
        x.hold(1, true);
        counts(x, 4, 7, 7, 1, 0, 0);
        x.hold(1, false);
        for (int kind = 0; kind < 4; kind++) {
            x.units(kind, 100);
            x.uses(1, kind, kind + 1);
            x.uses(2, kind, 10);
            x.uses(6, kind, 50);
        }
        x.hold(5, true);
        x.hold(6, true);
        x.next(1, 0);
        x.next(2, 0);
        x.drain(1, true);
        x.drain(3, true);
        x.drain(4, true);
        counts(x, 4, 7, 5, 2, 2, 2);
        for (int kind = 0; kind < 4; kind++) {
            due("count(1" + kind + ")", x.count(10 + kind), kind + 11);
        }
        x.end(1);
        counts(x, 4, 7, 5, 2, 1, 3);
        x.end(2);
        counts(x, 4, 7, 5, 2, 0, 3);
        for (int kind = 0; kind < 4; kind++) {
            due("count(1" + kind + ") of none", x.count(10 + kind), 0);
        }
    }

    private static void countOthers() {
        InitiatorRows x = rows(1, 0);
        int[] others = {-1, 6, 7, 8, 9, 14, 15, MIN, MAX};
        for (int what : others) {
            due("count(" + what + ")", x.count(what), -1);
        }
    }

    /** An object with so many initiators, each with one class in its list. */
    private static InitiatorRows rows(int initiators, int c) {
        InitiatorRows x = new InitiatorRows();
        for (int n = 1; n <= initiators; n++) {
            x.initiator();
            x.cls(n, 0, c);
        }
        return x;
    }

    private static InitiatorRows weighted(int... weights) {
        InitiatorRows x = new InitiatorRows();
        for (int c = 0; c < weights.length; c++) {
            x.weight(c, weights[c]);
        }
        return x;
    }

    private static void shares(InitiatorRows x, long all, long... want) {
        for (int c = 0; c < want.length; c++) {
            due("share(" + c + ", " + all + ")", x.share(c, all), want[c]);
        }
    }

    /** The class throws it itself: what the machine throws for a divisor 0 doesn't count. */
    private static boolean shareThrows(InitiatorRows x, int c, long all) {
        try {
            x.share(c, all);
        } catch (ArithmeticException e) {
            return !"/ by zero".equals(e.getMessage());
        }
        return false;
    }

    private static void orders(InitiatorRows x, int... want) {
        for (int i = 0; i < want.length; i++) {
            due("order(" + i + ")", x.order(i), want[i]);
        }
        due("order(" + want.length + ")", x.order(want.length), -1);
    }

    private static void counts(InitiatorRows x, int... want) {
        for (int what = 0; what < want.length; what++) {
            due("count(" + what + ")", x.count(what), want[what]);
        }
    }

    private static void due(String call, long got, long want) {
        if (got != want) {
            wrong++;
            System.out.println("promise " + promise + ": " + call + " answered " + got + ", due is " + want);
        }
    }
}
