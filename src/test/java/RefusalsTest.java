import java.util.function.Consumer;
import java.util.function.Supplier;
import java.util.function.ToLongFunction;

/**
 * NO and FULL: each row empty, with its last place free, and full; where two refusals hold at once, the first of
 * them; what is answered below 0 and is no refusal; and what only asks.
 */
public final class RefusalsTest {
    private static final Checks c = new Checks("RefusalsTest");
    private static final int[] SIZES = {1, 2, 4, 6};

    public static void main(String[] args) {
        factIsSo();
        noteIsThere();
        sixNotes();
        noteBadAheadOfNoAheadOfFull();
        sixPairs();
        pairBadAheadOfFull();
        threeOrdersTold();
        toldBadAheadOfFull();
        textOf150();
        typeBadAheadOfFull();
        mustBadAheadOfNo();
        noOrderIsAsTold();
        imageWasKept();
        fromBadAheadOfNo();
        allAreLived();
        noneWasLived();
        numbersThatAreNoRefusals();
        statusCountsEachCallOnce();
        statusCountsAsManyAsThereAreCalls();
        asksChangeNothing();
        c.end();
    }

    /** A state as another, with more told to it. */
    private static State then(State state, String what, Consumer<ShuffledDays> more) {
        Supplier<ShuffledDays> maker = () -> {
            ShuffledDays x = state.make();
            more.accept(x);
            return x;
        };
        return new State(state.name + " " + what, maker);
    }

    private static void no(State state, String what, ToLongFunction<ShuffledDays> call) {
        c.refused(state, what, Checks.NO, Checks.NO, call);
    }

    private static void bad(State state, String what, ToLongFunction<ShuffledDays> call) {
        c.refused(state, what, Checks.BAD, Checks.BAD, call);
    }

    private static void full(State state, String what, ToLongFunction<ShuffledDays> call) {
        c.refused(state, what, Checks.FULL, Checks.FULL, call);
    }

    /** Promise 4: "NO: it is so": each fact of each row, so and not so; the other row says nothing of it. */
    private static void factIsSo() {
        for (int what = 0; what < 2; what++) {
            for (int f = 0; f < 6; f++) {
                int row = what;
                int fact = f;
                State bare = State.bare(3);
                no(bare, "fact not so, row " + row + ", " + f, x -> x.fact(2, row, fact, false));
                State told = then(bare, "told", x -> {
                    x.fact(2, row, fact, true);
                    x.live();
                });
                no(told, "fact so, row " + row + ", " + f, x -> x.fact(2, row, fact, true));
                no(told, "fact not so in the other row", x -> x.fact(2, 1 - row, fact, false));
                no(told, "fact not so on another day", x -> x.fact(1, row, fact, false));
                c.due("the other row", told.make().fact(2, 1 - row, fact, true), 1);
                c.due("another day", told.make().fact(1, row, fact, true), 1);
                c.due("no more", told.make().fact(2, row, fact, false), 1);
                bad(told, "fact so, of no day", x -> x.fact(3, row, fact, false));
                bad(told, "fact so, of no row", x -> x.fact(2, 2, fact, false));
            }
        }
        for (int n : SIZES) {
            no(State.full(n), "so when all is full", x -> x.fact(0, 1, 0, true));
            no(State.some(n), "so when some is told", x -> x.fact(0, 1, 0, true));
        }
    }

    /** Promise 5: "NO: there is one"; "none twice": same fact and same day alone. */
    private static void noteIsThere() {
        State one = then(State.bare(2), "with a note", x -> {
            x.note(1, 5);
            x.live();
        });
        no(one, "the same note", x -> x.note(1, 5));
        c.due("same day, another fact", one.make().note(1, 4), 1);
        c.due("same fact, another day", one.make().note(0, 5), 1);
        for (int n : SIZES) {
            no(State.some(n), "some notes, the first again", x -> x.note(0, 5));
            no(State.some(n), "some notes, the last again", x -> x.note(n - 1, 0));
        }
        State torn = then(one, "torn", x -> x.tear(0));
        c.due("torn out it is there no more", torn.make().note(1, 5), 0);
    }

    /** "6 at most, as they come". */
    private static void sixNotes() {
        ShuffledDays x = State.bare(7).make();
        c.due("no notes to tear", x.tear(0), 0);
        for (int i = 0; i < 6; i++) {
            c.due("notes so far", x.count(1), i);
            c.due("note " + i, x.note(6 - i, i), i);
        }
        c.due("six notes", x.count(1), 6);
        c.due("the seventh", x.note(0, 0), -4);
        c.due("still six", x.tear(0), 6);
        c.due("none", x.count(1), 0);
        for (int i = 0; i < 6; i++) {
            c.due("note " + i + " of the same day", x.note(0, i), i);
        }
        for (int n : SIZES) {
            if (n > 1) {
                full(State.full(n), "a seventh note", y -> y.note(n - 1, n == 6 ? 0 : 6 - n));
            }
        }
    }

    private static void noteBadAheadOfNoAheadOfFull() {
        for (int n : SIZES) {
            State full = State.full(n);
            no(full, "there is one, and six", x -> x.note(0, 0));
            no(full, "there is one, the last of six", x -> x.note(5 % n, 5));
            bad(full, "no such fact, and six", x -> x.note(0, 6));
            bad(full, "no such day, and six", x -> x.note(n, 0));
            bad(full, "less than a day, and six", x -> x.note(-1, 5));
        }
    }

    /** "pairs of DAYS told (6 at most)": nothing says that none comes twice. */
    private static void sixPairs() {
        ShuffledDays x = State.bare(2).make();
        c.due("no pairs to tear", x.tear(1), 0);
        for (int i = 0; i < 6; i++) {
            c.due("pairs so far", x.count(2), i);
            c.due("pair " + i, x.ahead(0, 1), i);
        }
        c.due("the seventh", x.ahead(0, 1), -4);
        c.due("six pairs", x.count(2), 6);
        c.due("six torn", x.tear(1), 6);
        c.due("from the first again", x.ahead(1, 0), 0);
        for (int n : SIZES) {
            if (n > 1) {
                full(State.full(n), "a seventh pair", y -> y.ahead(1, 0));
                full(State.full(n), "a pair told before", y -> y.ahead(0, n - 1));
            }
        }
    }

    /** "BAD: alike, too": ahead of FULL, and for every day. */
    private static void pairBadAheadOfFull() {
        for (int n : SIZES) {
            for (int d = 0; d < n; d++) {
                int day = d;
                bad(State.bare(n), "a day ahead of itself", x -> x.ahead(day, day));
                bad(State.full(n), "a day ahead of itself, and six", x -> x.ahead(day, day));
            }
            bad(State.full(n), "no such day ahead, and six", x -> x.ahead(n, 0));
            bad(State.full(n), "ahead of no such day, and six", x -> x.ahead(0, n));
            bad(State.full(n), "two that are none, alike", x -> x.ahead(n, n));
        }
        bad(State.bare(1), "one day has no pair", x -> x.ahead(0, 0));
    }

    /** "up to 3, by RANKS": a rank may be told again. */
    private static void threeOrdersTold() {
        ShuffledDays x = State.bare(1).make();
        c.due("none to tear", x.tear(3), 0);
        for (int i = 0; i < 3; i++) {
            c.due("orders so far", x.count(4), i);
            c.due("order " + i, x.told(0), i);
        }
        c.due("the fourth", x.told(0), -4);
        c.due("three orders", x.count(4), 3);
        c.due("three torn", x.tear(3), 3);
        c.due("from the first again", x.told(0), 0);
        for (int n : SIZES) {
            full(State.full(n), "a fourth", y -> y.told(0));
            full(State.full(n), "a fourth, the last rank", y -> y.told(State.ORDERS_OF[n] - 1));
        }
    }

    private static void toldBadAheadOfFull() {
        for (int n : SIZES) {
            bad(State.full(n), "no such rank, and three", x -> x.told(State.ORDERS_OF[n]));
            bad(State.full(n), "less than a rank, and three", x -> x.told(-1));
        }
    }

    /** "THE LIFE is a TEXT (150 bytes at most)". */
    private static void textOf150() {
        ShuffledDays x = new ShuffledDays();
        c.due("empty", x.count(5), 0);
        c.due("empty, cleared", x.clear(), 0);
        for (int i = 1; i <= 150; i++) {
            c.due("byte " + i, x.type(i % 128), i);
        }
        c.due("the 151st", x.type(59), -4);
        c.due("150 bytes", x.count(5), 150);
        c.due("150 cleared", x.clear(), 150);
        c.due("nothing cleared", x.clear(), 0);
        c.due("from the first again", x.type(127), 1);
        for (int n : SIZES) {
            full(State.full(n), "the 151st", y -> y.type(59));
            full(State.full(n), "the 151st, the least byte", y -> y.type(0));
            full(State.full(n), "the 151st, the greatest byte", y -> y.type(127));
        }
    }

    private static void typeBadAheadOfFull() {
        bad(State.full(2), "no byte, and 150", x -> x.type(128));
        bad(State.full(2), "less than a byte, and 150", x -> x.type(-1));
    }

    private static State noneAsTold(int n) {
        return then(State.some(n), "none as told", x -> {
            x.ahead(0, n - 1);
            x.ahead(n - 1, 0);
        });
    }

    /** Promise 20: "BAD; NO". */
    private static void mustBadAheadOfNo() {
        for (int n : new int[] {2, 4}) {
            State none = noneAsTold(n);
            for (int d = 0; d < n; d++) {
                int day = d;
                no(none, "must(" + d + ")", x -> x.must(day));
            }
            bad(none, "must of no day", x -> x.must(n));
            bad(none, "must of less than a day", x -> x.must(-1));
        }
        State fails = then(State.bare(1), "that fails", x -> x.fact(0, 0, 3, true));
        no(fails, "must(0) of a day that fails", x -> x.must(0));
        c.due("must(0) of one day", State.bare(1).make().must(0), 0);
    }

    /** Promises 23 and 24: "NO"; THE FRACTION stays as it was. */
    private static void noOrderIsAsTold() {
        for (int n : new int[] {2, 4}) {
            no(noneAsTold(n), "mean", ShuffledDays::mean);
            no(noneAsTold(n), "best", ShuffledDays::best);
        }
        State twoInOnePlace = then(State.bare(3), "two in one place", x -> {
            x.at(0, 2);
            x.at(1, 2);
        });
        no(twoInOnePlace, "mean", ShuffledDays::mean);
        no(twoInOnePlace, "best", ShuffledDays::best);
        // no day going well is another thing than no order as told
        State fails = then(State.bare(1), "that fails", x -> x.fact(0, 0, 3, true));
        c.due("mean of a day that fails", fails.make().mean(), 1);
        c.due("best of a day that fails", fails.make().best(), 0);
    }

    /** Promise 38: "NO: none was kept": each image by itself. */
    private static void imageWasKept() {
        State bare = State.bare(2);
        no(bare, "from(0)", x -> x.from(0));
        no(bare, "from(1)", x -> x.from(1));
        State first = then(bare, "image 0 kept", x -> x.image(0));
        c.due("from(0)", first.make().from(0), 1);
        no(first, "from(1)", x -> x.from(1));
        State second = then(bare, "image 1 kept", x -> x.image(1));
        c.due("from(1)", second.make().from(1), 1);
        no(second, "from(0)", x -> x.from(0));
        State life = then(second, "and a life", x -> x.life(5));
        c.due("from(1) behind a life", life.make().from(1), 1);
        no(life, "from(0) behind a life", x -> x.from(0));
    }

    private static void fromBadAheadOfNo() {
        bad(State.bare(2), "from(2), none kept", x -> x.from(2));
        bad(State.bare(2), "from(-1), none kept", x -> x.from(-1));
    }

    /** Promise 33: "NO: all are lived". */
    private static void allAreLived() {
        for (int n = 1; n <= 7; n++) {
            ShuffledDays x = State.bare(n).make();
            for (int k = 0; k < n; k++) {
                c.due("live " + k + " of " + n, x.live(), 1);
            }
            c.due("one more than " + n, x.live(), -3);
            c.due("lived", x.sofar(0), n);
        }
        for (int n : SIZES) {
            no(State.full(n), "all are lived", ShuffledDays::live);
        }
    }

    /** Promise 34: "NO: none was". */
    private static void noneWasLived() {
        for (int n : SIZES) {
            no(State.bare(n), "none was lived", ShuffledDays::undo);
            State undone = then(State.full(n), "undone", x -> {
                for (int k = n - 1; k >= 0; k--) {
                    c.due("undo down to", x.undo(), k);
                }
            });
            no(undone, "none is lived any more", ShuffledDays::undo);
            c.due("the first is lived again", undone.make().live() >= 0 ? 1 : 0, 1);
        }
    }

    /** -5, NONE, -10 less the FAULT, -1000 less the number of an ITEM count as nothing. */
    private static void numbersThatAreNoRefusals() {
        State bare = State.bare(3);
        c.changesNothing(bare, "hang, one more than there are", -5, x -> x.hang(6));
        c.changesNothing(bare, "hang, the greatest int", -5, x -> x.hang(Integer.MAX_VALUE));
        c.changesNothing(bare, "read of nothing", -10, ShuffledDays::read);
        c.changesNothing(bare, "no day fails", -1, x -> x.first(0));
        c.changesNothing(bare, "no first note", -1, x -> x.notes(1));
        c.changesNothing(bare, "no second note", -1, x -> x.notes(2));
        c.changesNothing(bare, "nothing to settle", -1, x -> x.settle(0, 1));
        c.changesNothing(bare, "nothing told at", -1, x -> x.at(2, -1));
        c.changesNothing(bare, "nothing in the diary", -1, x -> x.diary(2, -1));
        State none = noneAsTold(3);
        c.changesNothing(none, "hang(0) of none", -5, x -> x.hang(0));
        c.changesNothing(none, "none as told", 0, x -> x.hang(-1));
        c.changesNothing(none, "torn of none", -1, x -> x.torn(1));
        c.changesNothing(none, "when of none", 0, x -> x.when(0, 0));
        State fault = then(State.some(3), "a fault", x -> x.type(';'));
        c.changesNothing(fault, "a fault in byte 15", -25, ShuffledDays::read);
        State item = then(State.some(3), "an item", x -> Checks.type(x, "day 2 0;"));
        c.changesNothing(item, "item 2 is refused", -1002, ShuffledDays::read);
        State helpless = then(bare, "that fails", x -> x.fact(0, 0, 0, true));
        for (int what = 0; what < 3; what++) {
            int asked = what;
            c.changesNothing(helpless, "no notes help, " + what, -1, x -> x.notes(asked));
        }
    }

    private static void statusCountsEachCallOnce() {
        ShuffledDays x = new ShuffledDays();
        long[] refused = {x.life(0), x.day(4, 6), x.fact(4, 2, 6, true), x.note(4, 6), x.ahead(4, 4), x.at(4, 4),
            x.tear(4), x.order(24), x.type(128), x.lived(4), x.knows(4), x.reads(4), x.missing(4), x.first(2),
            x.cards(4), x.hang(-2), x.must(4), x.told(24), x.notes(3), x.when(4, 64), x.diary(4, 64), x.torn(2),
            x.promise(6, 4, 4), x.other(24), x.two(4), x.settle(6, 2), x.game(2), x.sofar(3), x.part(2), x.image(2),
            x.from(2), x.status(3), x.count(7)};
        c.due("bad", x.status(0), refused.length);
        c.due("no", x.status(1), 0);
        c.due("full", x.status(2), 0);
        c.due("nothing else", x.digest(), new ShuffledDays().digest());
    }

    /** 512 calls an object is used for: STATUS counts 510 of them. */
    private static void statusCountsAsManyAsThereAreCalls() {
        ShuffledDays x = new ShuffledDays();
        ShuffledDays y = new ShuffledDays();
        ShuffledDays z = new ShuffledDays();
        for (int i = 0; i < 3; i++) {
            z.told(0);
        }
        for (int i = 0; i < 509; i++) {
            x.status(-1);
            y.undo();
            if (i > 2) {
                z.told(23);
            }
        }
        c.due("bad", x.status(0) * 10L + x.status(1) + x.status(2), 5090);
        c.due("no", y.status(1) * 10L + y.status(0) + y.status(2), 5090);
        c.due("full", z.status(2) * 10L + z.status(0) + z.status(1), 5060);
    }

    /** What only asks, and is answered, leaves no trace; mean and promise leave THE FRACTION alone. */
    private static void asksChangeNothing() {
        for (int n : SIZES) {
            for (State state : new State[] {State.bare(n), State.some(n), State.full(n)}) {
                c.due("asks of " + state.name, traceOf(state, State::asksOf), 0);
                c.due("counts of " + state.name, traceOf(state, x -> {
                    x.digest();
                    x.part(0);
                    x.part(1);
                    x.status(0);
                    x.status(1);
                    x.status(2);
                    x.count(5);
                }), 0);
            }
        }
    }

    private static int traceOf(State state, Consumer<ShuffledDays> asks) {
        ShuffledDays x = state.make();
        asks.accept(x);
        return State.portraitOf(x).equals(state.untouched()) ? 0 : 1;
    }
}
