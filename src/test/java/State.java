import java.util.ArrayList;
import java.util.List;
import java.util.function.Supplier;

/** A way in which an object may stand, made anew as often as it is asked for, and all that can be seen of one. */
final class State {
    static final int[] ORDERS_OF = {1, 1, 2, 6, 24, 120, 720, 5040};

    final String name;
    final int days;
    private final Supplier<ShuffledDays> maker;
    private List<String> portrait;

    State(String name, Supplier<ShuffledDays> maker) {
        this.name = name;
        this.maker = maker;
        this.days = maker.get().count(0);
    }

    ShuffledDays make() {
        return maker.get();
    }

    /** What an object that stands so shows if nothing is done to it. */
    List<String> untouched() {
        if (portrait == null) {
            portrait = portraitOf(make());
        }
        return portrait;
    }

    static State bare(int n) {
        return new State("bare " + n, () -> Checks.life(n));
    }

    static State some(int n) {
        return new State("some " + n, () -> madeWithSome(n));
    }

    static State full(int n) {
        return new State("full " + n, () -> madeFull(n));
    }

    /** Some of everything; image 1 alone is kept, some days are lived, something was refused. */
    private static ShuffledDays madeWithSome(int n) {
        ShuffledDays x = new ShuffledDays();
        int last = n - 1;
        x.life(n);
        x.day(last, 4);
        x.fact(0, 1, 0, true);
        x.fact(last, 0, 0, true);
        x.fact(last, 1, 5, true);
        x.note(0, 5);
        x.note(last, 0);
        if (n > 1) {
            x.ahead(0, last);
        }
        x.diary(0, 0);
        x.told(0);
        x.other(ORDERS_OF[n] - 1);
        x.order(ORDERS_OF[n] / 2);
        Checks.type(x, "life 2;day 1 3;");
        x.image(1);
        x.at(last, last);
        x.mean();
        x.life(0);
        x.from(0);
        x.live();
        return x;
    }

    /** Every row as full as it may be, both images kept, all days lived, something refused for each reason. */
    private static ShuffledDays madeFull(int n) {
        ShuffledDays x = new ShuffledDays();
        x.image(0);
        x.life(n);
        for (int d = 0; d < n; d++) {
            x.day(d, d % 6);
            x.fact(d, 1, d % 6, true);
            x.fact(d, 0, (d + 1) % 6, true);
            x.at(d, d);
            x.diary(d, 63);
        }
        for (int i = 0; i < 6; i++) {
            x.note(i % n, i);
            if (n > 1) {
                x.ahead(0, n - 1);
            }
        }
        x.order(ORDERS_OF[n] - 1);
        x.other(ORDERS_OF[n] / 2);
        for (int i = 0; i < 4; i++) {
            x.told(ORDERS_OF[n] - 1);
        }
        Checks.type(x, Checks.LONGEST);
        x.image(1);
        for (int k = 0; k <= n; k++) {
            x.live();
        }
        x.game(-1);
        x.mean();
        return x;
    }

    /** All that can be seen but STATUS. The object is used up by it: it goes on from its text and its images. */
    static List<String> portraitOf(ShuffledDays x) {
        List<String> seen = new ArrayList<>();
        see(seen, "digest", x.digest());
        see(seen, "part(0)", x.part(0));
        see(seen, "part(1)", x.part(1));
        see(seen, "count(5)", x.count(5));
        seen.addAll(asksOf(x));
        see(seen, "read", x.read());
        see(seen, "digest behind read", x.digest());
        for (int i = 0; i < 2; i++) {
            see(seen, "from " + i, x.from(i));
            see(seen, "digest behind from " + i, x.digest());
            see(seen, "sofar behind from " + i, 10 * x.sofar(1) + x.sofar(0));
        }
        return seen;
    }

    /** What an image keeps, as it can be seen. */
    static List<String> asksOf(ShuffledDays x) {
        List<String> seen = new ArrayList<>();
        for (int i : new int[] {0, 1, 2, 3, 4, 6}) {
            see(seen, "count " + i, x.count(i));
        }
        for (int i = 0; i < 3; i++) {
            see(seen, "sofar " + i, x.sofar(i));
            see(seen, "notes " + i, x.notes(i));
        }
        for (int i = 0; i < 2; i++) {
            see(seen, "first " + i, x.first(i));
            see(seen, "torn " + i, x.torn(i));
            see(seen, "game " + i, x.game(i));
            see(seen, "hang " + (i - 1), x.hang(i - 1));
        }
        see(seen, "best", x.best());
        for (int d = 0; d < x.count(0); d++) {
            see(seen, "lived " + d, x.lived(d));
            see(seen, "knows " + d, x.knows(d));
            see(seen, "reads " + d, x.reads(d));
            see(seen, "missing " + d, x.missing(d));
            see(seen, "cards " + d, x.cards(d));
            see(seen, "must " + d, x.must(d));
            see(seen, "two " + d, x.two(d));
            see(seen, "when " + d, x.when(d, x.knows(d)));
        }
        for (int f = 0; f < 6; f++) {
            see(seen, "settle " + f, 10 * x.settle(f, 0) + x.settle(f, 1));
        }
        return seen;
    }

    private static void see(List<String> seen, String what, long answer) {
        seen.add(what + " = " + answer);
    }
}
