import java.util.List;
import java.util.function.IntToLongFunction;
import java.util.function.LongSupplier;
import java.util.function.ToLongFunction;

/** What the tests share: counting wrong answers, typing texts, and what a refused call must leave alone. */
final class Checks {
    static final int NONE = -1, BAD = -2, NO = -3, FULL = -4;
    /** 150 bytes, 25 items: the longest text that can be read, and the most items. */
    static final String LONGEST = longest();

    private final String name;
    private int right = 0;
    private int wrong = 0;

    Checks(String name) {
        this.name = name;
    }

    void due(String what, long got, long want) {
        if (got == want) {
            right++;
        } else {
            wrong++;
            System.out.println(name + ": " + what + " answered " + got + ", due is " + want);
        }
    }

    /** The call answers so, STATUS counts it by its reason alone, and nothing else changes. */
    void refused(ShuffledDays x, String what, int reason, long answer, LongSupplier call) {
        int row = BAD - reason;
        int[] were = {x.status(0), x.status(1), x.status(2)};
        long digest = x.digest();
        due(what, call.getAsLong(), answer);
        for (int i = 0; i < 3; i++) {
            due(what + ": status(" + i + ")", x.status(i), were[i] + (i == row ? 1 : 0));
        }
        due(what + ": digest", x.digest(), digest);
    }

    /** The call answers so, and neither STATUS nor anything else changes. */
    void refusedNot(ShuffledDays x, String what, long answer, LongSupplier call) {
        int were = x.status(0) + x.status(1) + x.status(2);
        long digest = x.digest();
        due(what, call.getAsLong(), answer);
        due(what + ": status", x.status(0) + x.status(1) + x.status(2), were);
        due(what + ": digest", x.digest(), digest);
    }

    /** As refused above, from a state, and all that can be seen of the object is held against an untouched one. */
    void refused(State state, String what, int reason, long answer, ToLongFunction<ShuffledDays> call) {
        called(state, what, BAD - reason, answer, call);
    }

    /** The call answers so and changes nothing at all that can be seen. */
    void changesNothing(State state, String what, long answer, ToLongFunction<ShuffledDays> call) {
        called(state, what, NONE, answer, call);
    }

    private void called(State state, String what, int row, long answer, ToLongFunction<ShuffledDays> call) {
        String which = state.name + ": " + what;
        ShuffledDays x = state.make();
        ShuffledDays y = state.make();
        due(which, call.applyAsLong(x), answer);
        for (int i = 0; i < 3; i++) {
            due(which + ": status(" + i + ")", x.status(i), y.status(i) + (i == row ? 1 : 0));
        }
        alike(which, State.portraitOf(x), state.untouched());
    }

    void alike(String what, List<String> got, List<String> want) {
        due(what + ": as much is seen", got.size(), want.size());
        for (int i = 0; i < Math.min(got.size(), want.size()); i++) {
            if (!got.get(i).equals(want.get(i))) {
                due(what + ": seen " + got.get(i) + ", not " + want.get(i), 0, 1);
            }
        }
    }

    void bad(ShuffledDays x, String what, LongSupplier call) {
        refused(x, what, BAD, BAD, call);
    }

    void no(ShuffledDays x, String what, LongSupplier call) {
        refused(x, what, NO, NO, call);
    }

    void full(ShuffledDays x, String what, LongSupplier call) {
        refused(x, what, FULL, FULL, call);
    }

    /** Bad for everything below least and above most, at the edges and far out. */
    void badOutside(ShuffledDays x, String what, int least, int most, long answer, IntToLongFunction call) {
        int[] tries = {least - 1, most + 1, Integer.MIN_VALUE, Integer.MAX_VALUE, 1 << 16, -99};
        for (int t : tries) {
            refused(x, what + " with " + t, BAD, answer, () -> call.applyAsLong(t));
        }
    }

    private static String longest() {
        StringBuilder s = new StringBuilder("life7;");
        for (int i = 0; i < 24; i++) {
            s.append("at").append(i % 7).append(" 0;");
        }
        return s.toString();
    }

    static ShuffledDays life(int n) {
        ShuffledDays x = new ShuffledDays();
        x.life(n);
        return x;
    }

    static void facts(ShuffledDays x, int d, int what, int facts) {
        for (int f = 0; f < 6; f++) {
            if ((facts >> f & 1) != 0) {
                x.fact(d, what, f, true);
            }
        }
    }

    static void type(ShuffledDays x, String text) {
        for (int i = 0; i < text.length(); i++) {
            x.type(text.charAt(i));
        }
    }

    static int readAnew(ShuffledDays x, String text) {
        x.clear();
        type(x, text);
        return x.read();
    }

    static long fold(long... values) {
        long h = 827;
        for (long v : values) {
            h = 31 * h + v;
        }
        return h;
    }

    void end() {
        System.out.println(name + ": " + right + " answers as due, " + wrong + " not");
        if (wrong != 0 || right == 0) {
            System.exit(1);
        }
    }
}
