import java.util.ArrayList;
import java.util.List;

/**
 * One sentence of the document, and the runs of calls that show whether it holds.
 * A row is "call -> answer". Each row whose answer says that nothing was done is
 * also looked at for what it changed, as such a call changes nothing.
 */
final class Sentence {
    private static final int MOST_CALLS = 512;

    private static int sentences = 0;
    private static int broken = 0;

    private final String words;
    private final List<Call> past = new ArrayList<>();
    private InitiatorRows rows = new InitiatorRows();
    private int arrived = 0;
    private boolean holds = true;

    private Sentence(String words) {
        this.words = words;
        sentences++;
    }

    static Sentence of(String words) {
        return new Sentence(words);
    }

    /** Says how many sentences hold, and ends with exit code 1 if one doesn't. */
    static void end() {
        System.out.println(sentences + " sentences, " + broken + " do not hold");
        if (broken != 0) {
            System.exit(1);
        }
    }

    /** From here on a new object. */
    Sentence anew() {
        past.clear();
        rows = new InitiatorRows();
        arrived = 0;
        return this;
    }

    /** So many initiators on a new object, each with one class in its list. */
    Sentence anew(int initiators, int c) {
        anew();
        for (int n = 1; n <= initiators; n++) {
            due("initiator()", n);
            due("cls(" + n + ", 0, " + c + ")", 1);
        }
        return this;
    }

    /** So many jobs of a class arrive, with names from 0 on. */
    Sentence jobs(int many, int c, long t) {
        for (int k = 0; k < many; k++) {
            due("job(" + c + ", 0, " + arrived % 100 + ", " + t + ")", arrived + 1);
        }
        return this;
    }

    Sentence rows(String... told) {
        for (String row : told) {
            int arrow = row.indexOf("->");
            due(row.substring(0, arrow), row.substring(arrow + 2).trim());
        }
        return this;
    }

    Sentence due(String call, long want) {
        return due(call, String.valueOf(want));
    }

    Sentence due(String text, String want) {
        Call call = Call.of(text);
        String got = call.answer(rows);
        if (!got.equals(want)) {
            fails(call + " answered " + got + ", due is " + want);
        } else if (saysNothingDone(call, want)) {
            changesNothing(call);
        }
        remember(call);
        arrived += call.method.equals("job") && !want.startsWith("-") ? 1 : 0;
        return this;
    }

    /** The call is made, and nothing that can be asked may show it. */
    Sentence unseen(String text) {
        Call call = Call.of(text);
        changesNothing(call);
        call.answer(rows);
        remember(call);
        return this;
    }

    /** How many calls the object has had. */
    int calls() {
        return past.size();
    }

    private void remember(Call call) {
        past.add(call);
        if (past.size() > MOST_CALLS) {
            throw new AssertionError("the test asks more of an object than the document promises: " + words);
        }
    }

    private void changesNothing(Call call) {
        String difference = Twins.difference(past, call);
        if (difference != null) {
            fails(call + " changed something: " + difference);
        }
    }

    private static boolean saysNothingDone(Call call, String answer) {
        switch (call.method) {
            case "needs":
            case "hold":
            case "drain":
                return !answer.equals("1");
            case "initiator":
            case "cls":
            case "limit":
            case "window":
            case "job":
            case "units":
            case "uses":
            case "alone":
            case "next":
            case "end":
            case "age":
            case "weight":
                return answer.startsWith("-");
            default:
                return false;
        }
    }

    private void fails(String what) {
        if (holds) {
            holds = false;
            broken++;
            System.out.println("\"" + words + "\" does not hold:");
        }
        List<Call> last = past.subList(Math.max(0, past.size() - 6), past.size());
        System.out.println("  after " + last + ": " + what);
    }
}
