import java.util.function.LongSupplier;

/** What the tests share: counting wrong answers, typing texts, and what a refused call must leave alone. */
final class Checks {
    static final int NONE = -1, BAD = -2, NO = -3, FULL = -4;

    private final String name;
    private int right = 0;
    private int wrong = 0;

    Checks(String name) {
        this.name = name;
    }

    void due(String what, long got, long want) {
        if (got == want) {
            right++;
        } else {
            wrong++;
            System.out.println(name + ": " + what + " answered " + got + ", due is " + want);
        }
    }

    /** The call answers so, STATUS counts it by its reason alone, and nothing else changes. */
    void refused(ShuffledDays x, String what, int reason, long answer, LongSupplier call) {
        int row = BAD - reason;
        int[] were = {x.status(0), x.status(1), x.status(2)};
        long digest = x.digest();
        due(what, call.getAsLong(), answer);
        for (int i = 0; i < 3; i++) {
            due(what + ": status(" + i + ")", x.status(i), were[i] + (i == row ? 1 : 0));
        }
        due(what + ": digest", x.digest(), digest);
    }

    /** The call answers so, and neither STATUS nor anything else changes. */
    void refusedNot(ShuffledDays x, String what, long answer, LongSupplier call) {
        int were = x.status(0) + x.status(1) + x.status(2);
        long digest = x.digest();
        due(what, call.getAsLong(), answer);
        due(what + ": status", x.status(0) + x.status(1) + x.status(2), were);
        due(what + ": digest", x.digest(), digest);
    }

    void bad(ShuffledDays x, String what, LongSupplier call) {
        refused(x, what, BAD, BAD, call);
    }

    void no(ShuffledDays x, String what, LongSupplier call) {
        refused(x, what, NO, NO, call);
    }

    void full(ShuffledDays x, String what, LongSupplier call) {
        refused(x, what, FULL, FULL, call);
    }

    /** Bad for everything below least and above most, at the edges and far out. */
    void badOutside(ShuffledDays x, String what, int least, int most, long answer, java.util.function.IntToLongFunction call) {
        int[] tries = {least - 1, most + 1, Integer.MIN_VALUE, Integer.MAX_VALUE, 1 << 16, -99};
        for (int t : tries) {
            refused(x, what + " with " + t, BAD, answer, () -> call.applyAsLong(t));
        }
    }

    static void type(ShuffledDays x, String text) {
        for (int i = 0; i < text.length(); i++) {
            x.type(text.charAt(i));
        }
    }

    static int readAnew(ShuffledDays x, String text) {
        x.clear();
        type(x, text);
        return x.read();
    }

    static long fold(long... values) {
        long h = 827;
        for (long v : values) {
            h = 31 * h + v;
        }
        return h;
    }

    void end() {
        System.out.println(name + ": " + right + " answers as due, " + wrong + " not");
        if (wrong != 0 || right == 0) {
            System.exit(1);
        }
    }
}
