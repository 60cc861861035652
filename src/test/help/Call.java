import java.util.Arrays;

/** One call of an InitiatorRows, made from its text: "cls(1, 0, NONE)". */
final class Call {
    static final long INT_MIN = Integer.MIN_VALUE;
    static final long INT_MAX = Integer.MAX_VALUE;
    static final long LONG_MIN = Long.MIN_VALUE;
    static final long LONG_MAX = Long.MAX_VALUE;

    final String method;
    final long[] arguments;

    Call(String method, long... arguments) {
        this.method = method;
        this.arguments = arguments;
    }

    static Call of(String text) {
        int open = text.indexOf('(');
        String inside = text.substring(open + 1, text.lastIndexOf(')')).trim();
        String[] words = inside.isEmpty() ? new String[0] : inside.split(",");
        long[] numbers = new long[words.length];
        for (int k = 0; k < words.length; k++) {
            numbers[k] = number(words[k].trim());
        }
        return new Call(text.substring(0, open).trim(), numbers);
    }

    private static long number(String word) {
        switch (word) {
            case "true": return 1;
            case "false": return 0;
            case "NONE": return -1;
            case "MIN": return INT_MIN;
            case "MAX": return INT_MAX;
            case "LMIN": return LONG_MIN;
            case "LMAX": return LONG_MAX;
            default: return Long.parseLong(word);
        }
    }

    /** The answer as text, or the exception's name behind "throws.". */
    String answer(InitiatorRows x) {
        try {
            return String.valueOf(make(x, method, arguments));
        } catch (RuntimeException e) {
            // The class must throw by itself: what the machine throws for a divisor 0 doesn't count.
            String by = "/ by zero".equals(e.getMessage()) ? ".by.the.machine" : "";
            return "throws." + e.getClass().getSimpleName() + by;
        }
    }

    private static long make(InitiatorRows x, String method, long[] a) {
        switch (method) {
            case "initiator": return x.initiator();
            case "cls": return x.cls((int) a[0], (int) a[1], (int) a[2]);
            case "limit": return x.limit((int) a[0], (int) a[1]);
            case "window": return x.window((int) a[0], (int) a[1], (int) a[2]);
            case "job": return x.job((int) a[0], (int) a[1], (int) a[2], a[3]);
            case "needs": return x.needs((int) a[0], (int) a[1]);
            case "units": return x.units((int) a[0], (int) a[1]);
            case "uses": return x.uses((int) a[0], (int) a[1], (int) a[2]);
            case "alone": return x.alone((int) a[0]);
            case "hold": return x.hold((int) a[0], a[1] != 0);
            case "next": return x.next((int) a[0], a[1]);
            case "end": return x.end((int) a[0]);
            case "age": return x.age(a[0], (int) a[1]);
            case "drain": return x.drain((int) a[0], a[1] != 0);
            case "weight": return x.weight((int) a[0], (int) a[1]);
            case "share": return x.share((int) a[0], a[1]);
            case "order": return x.order((int) a[0]);
            case "waited": return x.waited((int) a[0]);
            case "state": return x.state((int) a[0]);
            case "count": return x.count((int) a[0]);
            default: throw new AssertionError(method);
        }
    }

    @Override
    public String toString() {
        String inside = Arrays.toString(arguments);
        return method + "(" + inside.substring(1, inside.length() - 1) + ")";
    }
}
