import java.util.ArrayList;
import java.util.List;

/**
 * "BAD: a number is not as told": each number of each call, for 1 to 7 days: the last that is allowed and the first
 * that is not on each side, the least int and the greatest. A refused call counts once and changes nothing else.
 */
public final class NumbersTest {
    private static final Checks c = new Checks("NumbersTest");

    private interface Call {
        long on(ShuffledDays x, int[] a);
    }

    /** A number of a call: from least to most it is as told; plain is one with which nothing else is in the way. */
    private record Number(int least, int most, int plain) {
    }

    private record Asked(String name, long bad, Call call, Number... numbers) {
    }

    public static void main(String[] args) {
        for (int n = 1; n <= 7; n++) {
            List<State> states = new ArrayList<>();
            states.add(State.bare(n));
            states.add(State.some(n));
            if (n < 7) {
                states.add(State.full(n));
            }
            for (Asked asked : all(n)) {
                for (State state : states) {
                    eachOutside(state, asked);
                    twoOutside(state, asked);
                }
                eachWithin(states.get(0), asked);
            }
        }
        for (Asked asked : all(7)) {
            eachOutside(State.full(7), asked);
        }
        boundsFollowTheDays();
        newObjectHasFourDays();
        c.end();
    }

    private static Number from(int least, int most, int plain) {
        return new Number(least, most, plain);
    }

    private static List<Asked> all(int n) {
        Number day = from(0, n - 1, 0);
        Number lastDay = from(0, n - 1, n - 1);
        Number rank = from(0, State.ORDERS_OF[n] - 1, 0);
        Number two = from(0, 1, 0);
        Number three = from(0, 2, 0);
        Number fact = from(0, 5, 0);
        return List.of(
            new Asked("life", -2, (x, a) -> x.life(a[0]), from(1, 7, n)),
            new Asked("day", -2, (x, a) -> x.day(a[0], a[1]), day, from(0, 5, 1)),
            new Asked("fact, true", -2, (x, a) -> x.fact(a[0], a[1], a[2], true), day, two, fact),
            new Asked("fact, false", -2, (x, a) -> x.fact(a[0], a[1], a[2], false), day, two, fact),
            new Asked("note", -2, (x, a) -> x.note(a[0], a[1]), day, fact),
            new Asked("ahead", -2, (x, a) -> x.ahead(a[0], a[1]), day, lastDay),
            new Asked("at", -10, (x, a) -> x.at(a[0], a[1]), day, from(-1, n - 1, 0)),
            new Asked("tear", -2, (x, a) -> x.tear(a[0]), from(0, 3, 0)),
            new Asked("order", -2, (x, a) -> x.order(a[0]), rank),
            new Asked("type", -2, (x, a) -> x.type(a[0]), from(0, 127, 32)),
            new Asked("lived", -2, (x, a) -> x.lived(a[0]), day),
            new Asked("knows", -2, (x, a) -> x.knows(a[0]), day),
            new Asked("reads", -2, (x, a) -> x.reads(a[0]), day),
            new Asked("missing", -2, (x, a) -> x.missing(a[0]), day),
            new Asked("first", -2, (x, a) -> x.first(a[0]), two),
            new Asked("cards", -2, (x, a) -> x.cards(a[0]), day),
            new Asked("hang", -10, (x, a) -> x.hang(a[0]), from(-1, Integer.MAX_VALUE, 0)),
            new Asked("must", -2, (x, a) -> x.must(a[0]), day),
            new Asked("told", -2, (x, a) -> x.told(a[0]), rank),
            new Asked("notes", -10, (x, a) -> x.notes(a[0]), three),
            new Asked("when", -2, (x, a) -> x.when(a[0], a[1]), day, from(0, 63, 0)),
            new Asked("diary", -10, (x, a) -> x.diary(a[0], a[1]), day, from(-1, 63, 0)),
            new Asked("torn", -10, (x, a) -> x.torn(a[0]), two),
            new Asked("promise", -2, (x, a) -> x.promise(a[0], a[1], a[2]), fact, day, lastDay),
            new Asked("other", -2, (x, a) -> x.other(a[0]), rank),
            new Asked("two", -2, (x, a) -> x.two(a[0]), day),
            new Asked("settle", -10, (x, a) -> x.settle(a[0], a[1]), fact, two),
            new Asked("game", -100, (x, a) -> x.game(a[0]), two),
            new Asked("sofar", -2, (x, a) -> x.sofar(a[0]), three),
            new Asked("part", -2, (x, a) -> x.part(a[0]), two),
            new Asked("image", -2, (x, a) -> x.image(a[0]), two),
            new Asked("from", -2, (x, a) -> x.from(a[0]), two),
            new Asked("status", -1, (x, a) -> x.status(a[0]), three),
            new Asked("count", -2, (x, a) -> x.count(a[0]), from(0, 6, 0)));
    }

    private static int[] plain(Asked asked) {
        int[] a = new int[asked.numbers.length];
        for (int i = 0; i < a.length; i++) {
            a[i] = asked.numbers[i].plain;
        }
        return a;
    }

    private static List<Integer> outside(Number number) {
        List<Integer> tries = new ArrayList<>();
        for (long t : new long[] {number.least - 1L, number.most + 1L, Integer.MIN_VALUE, Integer.MAX_VALUE}) {
            if ((t < number.least || t > number.most) && t == (int) t && !tries.contains((int) t)) {
                tries.add((int) t);
            }
        }
        return tries;
    }

    private static String text(Asked asked, int[] a) {
        StringBuilder s = new StringBuilder(asked.name).append("(");
        for (int i = 0; i < a.length; i++) {
            s.append(i == 0 ? "" : ", ").append(a[i]);
        }
        return s.append(")").toString();
    }

    private static void eachOutside(State state, Asked asked) {
        for (int i = 0; i < asked.numbers.length; i++) {
            for (int t : outside(asked.numbers[i])) {
                int[] a = plain(asked);
                a[i] = t;
                c.refused(state, text(asked, a), Checks.BAD, asked.bad, x -> asked.call.on(x, a));
            }
        }
    }

    /** One call is refused once, however many of its numbers are bad. */
    private static void twoOutside(State state, Asked asked) {
        for (int i = 1; i < asked.numbers.length; i++) {
            int[] a = plain(asked);
            a[i - 1] = asked.numbers[i - 1].least - 1;
            a[i] = asked.numbers[i].most + 1;
            c.refused(state, text(asked, a), Checks.BAD, asked.bad, x -> asked.call.on(x, a));
        }
    }

    private static void eachWithin(State state, Asked asked) {
        for (int i = 0; i < asked.numbers.length; i++) {
            for (int t : new int[] {asked.numbers[i].least, asked.numbers[i].most}) {
                int[] a = plain(asked);
                a[i] = t;
                boolean alike = (asked.name.equals("ahead") || asked.name.equals("promise"))
                    && a[a.length - 2] == a[a.length - 1];
                if (!alike) {
                    ShuffledDays x = state.make();
                    asked.call.on(x, a);
                    c.due(state.name + ": " + text(asked, a) + " is not bad", x.status(0), 0);
                }
            }
        }
    }

    /** What is allowed goes by the days there are now, not by those there were or may be. */
    private static void boundsFollowTheDays() {
        ShuffledDays x = new ShuffledDays();
        x.life(7);
        c.due("day 6 of seven", x.day(6, 5), 0);
        c.due("place 6 of seven", x.at(6, 6), -1);
        c.due("rank 5039 of seven", x.other(5039), 0);
        x.life(2);
        c.bad(x, "day 6 of two", () -> x.day(6, 5));
        c.bad(x, "day 2 of two", () -> x.day(2, 0));
        c.refused(x, "place 2 of two", Checks.BAD, -10, () -> x.at(0, 2));
        c.bad(x, "rank 5039 of two", () -> x.other(5039));
        c.bad(x, "rank 2 of two", () -> x.told(2));
        x.image(0);
        x.life(3);
        c.due("day 2 of three", x.knows(2), 0);
        x.from(0);
        c.bad(x, "day 2 of the image of two", () -> x.knows(2));
        Checks.readAnew(x, "life 5;");
        c.due("rank 119 of five read", x.order(119), 0);
        c.bad(x, "rank 120 of five read", () -> x.order(120));
    }

    private static void newObjectHasFourDays() {
        State fresh = new State("new", ShuffledDays::new);
        for (Asked asked : all(4)) {
            eachOutside(fresh, asked);
            eachWithin(fresh, asked);
        }
    }
}
