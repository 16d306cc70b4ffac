/** Promises 13 to 18 and 29 to 35: what she knows, two who live so, the game, and living. */
public final class KnowingTest {
    private static final Checks c = new Checks("KnowingTest");

    public static void main(String[] args) {
        promise13Lived();
        promise14Knows();
        promise15Reads();
        promise16Missing();
        kindsUnderOneAnother();
        promise17First();
        promise18Cards();
        promise29Other();
        promise30And31TwoAndSettle();
        promise32Game();
        promise33To35Living();
        otherCallsBetween();
        sevenDays();
        c.end();
    }

    private static void promise13Lived() {
        ShuffledDays x = new ShuffledDays();
        x.life(3);
        String[] orders = {"012", "021", "102", "120", "201", "210"};
        for (int r = 0; r < 6; r++) {
            x.order(r);
            for (int k = 0; k < 3; k++) {
                c.due("lived(" + k + ") of rank " + r, x.lived(k), orders[r].charAt(k) - '0');
            }
        }
        c.badOutside(x, "lived", 0, 2, -2, x::lived);
        x.life(7);
        x.order(2 * 720 + 5 * 120 + 4 * 24 + 3 * 6 + 2 * 2 + 1);
        int[] due = {2, 6, 5, 4, 3, 1, 0};
        for (int k = 0; k < 7; k++) {
            c.due("lived of seven", x.lived(k), due[k]);
        }
    }

    private static void promise14Knows() {
        ShuffledDays x = new ShuffledDays();
        for (int d = 0; d < 4; d++) {
            x.fact(d, 1, d, true);
        }
        x.order(9);
        c.due("first of 1230", x.knows(1), 0);
        c.due("second of 1230", x.knows(2), 2);
        c.due("third of 1230", x.knows(3), 6);
        c.due("last of 1230", x.knows(0), 14);
        x.note(1, 1);
        c.due("what is not known is not noted", x.knows(0) - x.reads(0), 14);
        c.due("what is not known is not noted", x.reads(3), 0);
        x.note(0, 3);
        c.due("a note from a day that is not lived yet", x.knows(1), 8);
        c.due("and on from there", x.knows(2), 10);
        x.note(0, 5);
        c.due("nobody knows 5", x.knows(3), 14);
        c.badOutside(x, "knows", 0, 3, -2, x::knows);
    }

    private static void promise15Reads() {
        ShuffledDays x = new ShuffledDays();
        x.fact(3, 1, 0, true);
        x.order(23);
        x.note(1, 0);
        c.due("not on its own date", x.reads(1), 0);
        c.due("not on a lesser date", x.reads(0), 0);
        c.due("on a later date, lived ahead of it", x.reads(2), 1);
        c.due("on each later date", x.reads(3), 1);
        c.due("known by reading alone", x.knows(3), 1);
        x.note(2, 0);
        c.due("read by one note as well", x.reads(3), 1);
        x.tear(0);
        x.note(3, 0);
        c.due("learnt today is known tomorrow", x.reads(3), 0);
        x.order(0);
        x.note(0, 0);
        c.due("nothing is noted", x.reads(3), 0);
        c.badOutside(x, "reads", 0, 3, -2, x::reads);
        // what is read on a day is noted there again
        x.life(4);
        x.fact(3, 1, 2, true);
        x.order(18);
        x.note(0, 2);
        x.day(1, 3);
        c.due("order 3012", x.lived(0), 3);
        c.due("read on the first that is lived", x.reads(3), 4);
        c.due("reading is not learning", x.sofar(2), 0);
    }

    private static void promise16Missing() {
        ShuffledDays x = new ShuffledDays();
        x.fact(0, 1, 0, true);
        x.fact(1, 0, 0, true);
        x.fact(1, 0, 5, true);
        c.due("missing", x.missing(1), 32);
        x.order(23);
        c.due("missing", x.missing(1), 33);
        c.due("nothing needed", x.missing(0), 0);
        x.day(1, 5);
        c.due("a dream needs nothing", x.missing(1), 0);
        c.badOutside(x, "missing", 0, 3, -2, x::missing);
    }

    /** reads, writes, learns, needs of each kind, seen from outside. */
    private static void kindsUnderOneAnother() {
        boolean[] reads = {true, false, true, true, false, true};
        boolean[] writes = {true, true, true, false, true, false};
        int[] learnt = {1, 1, 0, 1, 3, 0};
        int[] needed = {2, 2, 2, 2, 2, 0};
        for (int kind = 0; kind < 6; kind++) {
            ShuffledDays x = new ShuffledDays();
            x.fact(1, 1, 0, true);
            x.fact(1, 0, 1, true);
            x.fact(0, 1, 2, true);
            x.note(1, 2);
            x.day(1, kind);
            c.due("learnt by kind " + kind, x.knows(2), 4 | learnt[kind]);
            c.due("needed by kind " + kind, x.missing(1), needed[kind]);
            c.due("written by kind " + kind, x.reads(2), writes[kind] ? 4 : 0);
            x.fact(0, 1, 2, false);
            x.fact(3, 1, 3, true);
            x.note(0, 3);
            x.order(18);
            c.due("read by kind " + kind, x.reads(1), reads[kind] ? 8 : 0);
        }
    }

    private static void promise17First() {
        ShuffledDays x = new ShuffledDays();
        c.due("all well", x.first(0), -1);
        c.due("all well", x.first(1), 4);
        x.fact(1, 0, 0, true);
        x.fact(2, 0, 1, true);
        x.fact(0, 1, 0, true);
        c.due("day 2 fails", x.first(0), 2);
        c.due("three go well", x.first(1), 3);
        x.order(23);
        c.due("the first lived, not by date", x.first(0), 2);
        c.due("two go well", x.first(1), 2);
        x.order(7);
        c.due("order 1032", x.first(0), 1);
        c.badOutside(x, "first", 0, 1, -2, x::first);
    }

    private static void promise18Cards() {
        ShuffledDays x = new ShuffledDays();
        x.fact(3, 1, 0, true);
        x.fact(2, 1, 1, true);
        x.order(23);
        c.due("cards of the first date", x.cards(0), 0);
        c.due("known at a lesser date", x.cards(3), 3);
        c.due("knows one of them", x.cards(2), 2);
        c.due("knows both", x.cards(1), 0);
        x.order(0);
        c.due("by dates", x.cards(3), 0);
        x.order(18);
        x.day(1, 5);
        c.due("3012: 0 and 1 know", x.cards(2), 0);
        c.due("3012: 0, 1 and 2 know", x.cards(3), 1);
        x.order(13);
        c.due("2031: 0 knows 1", x.cards(2), 3);
        x.order(12);
        c.due("2013: 0 knows 1, so does 1", x.cards(2), 2);
        x.life(2);
        x.fact(1, 1, 4, true);
        x.order(1);
        c.due("day 0 alone knows", x.cards(1), 16);
        c.badOutside(x, "cards", 0, 3, -2, x::cards);
    }

    private static void promise29Other() {
        ShuffledDays x = new ShuffledDays();
        x.live();
        c.due("other at first", x.other(23), 0);
        c.due("other", x.other(5), 23);
        c.due("her own order stays", x.count(6), 0);
        c.due("what is lived stays", x.sofar(0), 1);
        c.badOutside(x, "other", 0, 23, -2, x::other);
        x.life(2);
        c.due("by dates again", x.other(1), 0);
        c.badOutside(x, "other of two days", 0, 1, -2, x::other);
    }

    private static void promise30And31TwoAndSettle() {
        ShuffledDays x = new ShuffledDays();
        x.fact(0, 1, 0, true);
        x.fact(3, 1, 1, true);
        x.order(9);
        c.due("order 1230", x.lived(0), 1);
        x.other(18);
        c.due("two(0): hers 2, the other's 2", x.two(0), 2);
        c.due("two(1): hers none", x.two(1), 0);
        c.due("two(2): hers none", x.two(2), 0);
        c.due("settle(1, 0)", x.settle(1, 0), 1);
        c.due("settle(1, 1)", x.settle(1, 1), 0);
        c.due("settle(0, 0)", x.settle(0, 0), 0);
        c.due("settle(0, 1)", x.settle(0, 1), -1);
        x.note(0, 1);
        c.due("each reads what lies for her", x.two(1), 2);
        c.due("settle with a note", x.settle(1, 0), 4);
        c.due("settle with a note", x.settle(1, 1), 0);
        x.other(0);
        c.due("no note lies for the other one", x.two(1), 0);
        c.due("settle", x.settle(1, 0), 0);
        x.order(0);
        c.due("both by dates", x.settle(0, 0), 3);
        c.due("both by dates", x.settle(0, 1), 1);
        c.badOutside(x, "two", 0, 3, -2, x::two);
        c.badOutside(x, "settle(..)", 0, 5, -10, t -> x.settle(t, 0));
        c.badOutside(x, "settle(0, ..)", 0, 1, -10, t -> x.settle(0, t));
    }

    private static void promise32Game() {
        ShuffledDays x = new ShuffledDays();
        c.due("nothing to gain", x.game(0), 0);
        c.due("the least of like ones", x.game(1), 0);
        x.fact(2, 1, 0, true);
        c.due("one fact", x.game(0), 1);
        c.due("one fact", x.game(1), 2);
        x.day(2, 5);
        c.due("whatever its kind", x.game(0), 1);
        x.fact(3, 1, 0, true);
        c.due("the same fact twice goes once", x.game(0), 1);
        c.due("of like ones the least", x.game(1), 2);
        x.life(3);
        x.fact(0, 1, 0, true);
        x.fact(1, 1, 0, true);
        x.fact(1, 1, 1, true);
        x.fact(2, 1, 2, true);
        c.due("what day 0 gave is had", x.game(0), 1);
        x.fact(0, 1, 1, true);
        c.due("0 and 1 are alike: one more", x.game(0), 1);
        c.due("0 and 1 are alike", x.game(1), 0);
        x.life(2);
        x.fact(0, 1, 3, true);
        x.fact(1, 1, 3, true);
        c.due("two alike", x.game(0), 1);
        c.due("two alike", x.game(1), 0);
        x.life(4);
        x.fact(2, 1, 0, true);
        x.fact(3, 1, 0, true);
        x.fact(3, 1, 1, true);
        c.due("both facts at once", x.game(0), 2);
        c.due("both facts at once", x.game(1), 3);
        // the most facts at once are not best: she would answer 0 by 1, or 1 by 0, and gain as many
        x.life(3);
        int[] sets = {56, 7, 33};
        for (int d = 0; d < 3; d++) {
            for (int f = 0; f < 6; f++) {
                if ((sets[d] >> f & 1) != 0) {
                    x.fact(d, 1, f, true);
                }
            }
        }
        c.due("three days", x.game(0), 2);
        c.due("three days", x.game(1), 2);
        x.life(2);
        x.fact(1, 1, 5, true);
        x.fact(0, 1, 4, true);
        c.due("one each", x.game(0), 0);
        c.due("one each", x.game(1), 0);
        c.refused(x, "game(2)", -2, -100, () -> x.game(2));
        c.badOutside(x, "game", 0, 1, -100, x::game);
    }

    /** What is asked between leaves no trace in what she knows and lives. */
    private static void otherCallsBetween() {
        ShuffledDays x = new ShuffledDays();
        x.fact(3, 1, 0, true);
        x.fact(2, 0, 0, true);
        x.fact(1, 0, 0, true);
        x.fact(0, 0, 0, true);
        x.order(18);
        for (int k = 0; k < 4; k++) {
            ask(x, k);
            c.due("live " + k, x.live(), 1);
            ask(x, k);
            c.due("well", x.sofar(1), k + 1);
            ask(x, k);
            c.due("learnt", x.sofar(2), 1);
            ask(x, k);
            c.due("lived", x.lived(k), new int[] {3, 0, 1, 2}[k]);
            ask(x, k);
            c.due("knows", x.knows(k), k == 3 ? 0 : 1);
        }
        x.order(0);
        x.promise(0, 0, 1);
        c.due("a promise is none of hers", x.live(), 0);
        x.promise(0, 0, 1);
        c.due("a promise is none of hers", x.sofar(2), 0);
    }

    private static void ask(ShuffledDays x, int k) {
        if (k == 0) {
            x.hang(-1);
        } else if (k == 1) {
            x.two(0);
        } else if (k == 2) {
            x.promise(5, 1, 0);
        } else {
            x.mean();
        }
    }

    /** As many days as there may be, all rows full. */
    private static void sevenDays() {
        ShuffledDays x = new ShuffledDays();
        x.life(7);
        for (int d = 0; d < 6; d++) {
            x.fact(d, 1, d, true);
            x.fact(6, 0, d, true);
            x.note(d, d);
            x.ahead(d, 6);
        }
        c.due("knows all", x.knows(6), 63);
        c.due("when", x.when(6, 63), 64);
        c.due("must", x.must(6), 63);
        c.due("hang", x.hang(-1), 720);
        c.due("all go well", x.notes(0), 0);
        c.due("two", x.two(6), 63);
        c.due("settle", x.settle(5, 1), 6);
        c.due("game", x.game(0), 0);
        c.due("game", x.game(1), 0);
        c.due("cards", x.cards(6), 0);
        for (int k = 0; k < 7; k++) {
            c.due("live", x.live(), 1);
            c.due("diary", x.diary(k, (1 << k) - 1), -1);
        }
        c.due("so far", x.sofar(0) * 100 + x.sofar(2), 763);
        c.due("torn", x.torn(0), 1);
        x.order(5039);
        c.due("6 first: missing all", x.missing(6), 63);
        c.due("6 first", x.first(0), 6);
        c.due("6 others", x.first(1), 6);
        c.due("no notes help", x.notes(0), -1);
        c.due("cards", x.cards(0), 0);
        c.due("cards", x.cards(6), 62);
        x.tear(1);
        c.due("promise", x.promise(0, 1, 6), 1);
        c.due("all but 6 ahead of 0 ahead of 1", x.part(0) * 10 + x.part(1), 56);
        x.at(6, 6);
        c.due("at", x.hang(0), 0);
        x.at(6, 0);
        c.due("at", x.best(), 4320);
    }

    private static void promise33To35Living() {
        ShuffledDays x = new ShuffledDays();
        x.fact(0, 1, 0, true);
        x.fact(1, 1, 4, true);
        x.fact(1, 0, 1, true);
        x.fact(2, 0, 0, true);
        c.no(x, "undo of nothing", x::undo);
        c.due("live 0", x.live(), 1);
        c.due("learnt", x.sofar(2), 1);
        c.due("live 1 goes badly", x.live(), 0);
        c.due("and she learns by it", x.sofar(2), 17);
        c.due("lived", x.sofar(0), 2);
        c.due("well", x.sofar(1), 1);
        c.due("live 2", x.live(), 1);
        c.due("live 3", x.live(), 1);
        c.due("well", x.sofar(1), 3);
        c.no(x, "all are lived", x::live);
        c.due("undo", x.undo(), 3);
        c.due("undo", x.undo(), 2);
        c.due("undo", x.undo(), 1);
        c.due("learnt after undo", x.sofar(2), 1);
        c.due("well after undo", x.sofar(1), 1);
        c.due("undo", x.undo(), 0);
        c.due("learnt nothing", x.sofar(2), 0);
        c.no(x, "undo of nothing", x::undo);
        x.order(23);
        c.due("live 3 first", x.live(), 1);
        c.due("then 2, without knowing", x.live(), 0);
        x.diary(0, 3);
        x.told(0);
        x.other(3);
        x.at(0, 0);
        x.ahead(0, 1);
        x.mean();
        x.clear();
        c.due("these go on with it", x.sofar(0), 2);
        x.note(0, 0);
        c.due("a note begins it anew", x.sofar(0), 0);
        c.badOutside(x, "sofar", 0, 2, -2, x::sofar);
        x.life(1);
        c.due("one day", x.live(), 1);
        c.no(x, "one day is all", x::live);
        x.life(2);
        x.day(0, 2);
        x.fact(0, 1, 3, true);
        x.live();
        c.due("an ill day is lived, nothing learnt", x.sofar(0) * 100 + x.sofar(2), 100);
    }
}
