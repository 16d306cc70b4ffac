import java.util.ArrayList;
import java.util.List;

/** Section 1, promises 13 to 18 and 29 to 32: the first and the last day, date, fact and kind; the empty and the full. */
public final class DaysEdgesTest {
    private static final Checks c = new Checks("DaysEdgesTest");
    private static final int ALL_FACTS = 63;

    public static void main(String[] args) {
        oneToSevenDays();
        lifeIsAllAsAtFirst();
        everyRankOfEveryLife();
        orderGivesTheRankItHad();
        everyKindOnEveryDay();
        everyFactOfEveryDay();
        oneDayKnowsNothing();
        firstLivedKnowsWhatSheReads();
        lastLivedKnowsAllButItsOwn();
        notReadOnItsOwnDateNorAhead();
        readOnEachLaterDate();
        noteOfTheLastDate();
        noteOfWhatThatDayTeaches();
        noteOfWhatIsReadThere();
        notWritten();
        notRead();
        sixNotesOfOneDay();
        illLearnsNothing();
        schoolLearnsWhatItNeeds();
        dreamNeedsNothing();
        goesWellIfAllIsKnown();
        firstAndWell();
        cardsOfTheFirstDate();
        cardsAreOfLesserDates();
        otherByDatesAtFirst();
        settleFromNoneToAll();
        gameOfOneDay();
        gameFromNoneToAll();
        gameOfSevenDays();
        gameByTurns();
        c.end();
    }

    private static void teaches(ShuffledDays x, int d, int facts) {
        Checks.facts(x, d, 1, facts);
    }

    private static void needs(ShuffledDays x, int d, int facts) {
        Checks.facts(x, d, 0, facts);
    }

    /** "n 1 .. 7; 4 at first": life answers what n was. */
    private static void oneToSevenDays() {
        ShuffledDays x = new ShuffledDays();
        int was = 4;
        for (int n : new int[] {1, 7, 1, 2, 3, 4, 5, 6, 7, 7}) {
            c.due("life(" + n + ")", x.life(n), was);
            c.due("days", x.count(0), n);
            c.due("the last day", x.lived(n - 1), n - 1);
            was = n;
        }
        c.due("no eighth day", x.life(8), -2);
        c.due("not no day", x.life(0), -2);
        c.due("seven still", x.count(0), 7);
    }

    /** "n DAYS, all as at first, nothing else told": of as many, fewer and more days than there were. */
    private static void lifeIsAllAsAtFirst() {
        for (int n = 1; n <= 7; n++) {
            for (int m = 1; m <= 7; m++) {
                ShuffledDays x = State.some(n).make();
                x.life(m);
                c.alike("life(" + m + ") behind some of " + n, State.asksOf(x), State.asksOf(Checks.life(m)));
                c.due("diary", x.diary(m - 1, -1), -1);
                c.due("at", x.at(m - 1, -1), -1);
                c.due("kind", x.day(m - 1, 0), 0);
                c.due("other", x.other(0), 0);
            }
            ShuffledDays x = State.full(n).make();
            x.life(n);
            c.alike("life(" + n + ") behind a full one", State.asksOf(x), State.asksOf(Checks.life(n)));
        }
    }

    private static List<int[]> orders(int n) {
        List<int[]> all = new ArrayList<>();
        addOrders(new int[n], 0, 0, all);
        return all;
    }

    private static void addOrders(int[] begun, int k, int used, List<int[]> all) {
        if (k == begun.length) {
            all.add(begun.clone());
            return;
        }
        for (int d = 0; d < begun.length; d++) {
            if ((used >> d & 1) == 0) {
                begun[k] = d;
                addOrders(begun, k + 1, used | 1 << d, all);
            }
        }
    }

    /** "its RANK: how many are ahead of it (by its first DAY, then the second, ..)". */
    private static void everyRankOfEveryLife() {
        for (int n = 1; n <= 7; n++) {
            List<int[]> orders = orders(n);
            ShuffledDays x = null;
            for (int rank = 0; rank < orders.size(); rank++) {
                if (x == null || rank % 50 == 0) {
                    x = Checks.life(n);
                }
                x.order(rank);
                for (int k = 0; k < n; k++) {
                    c.due("rank " + rank + " of " + n + " days, lived(" + k + ")", x.lived(k), orders.get(rank)[k]);
                }
            }
        }
    }

    private static void orderGivesTheRankItHad() {
        for (int n = 1; n <= 7; n++) {
            int last = State.ORDERS_OF[n] - 1;
            ShuffledDays x = Checks.life(n);
            c.due("by dates", x.order(last), 0);
            c.due("the last", x.order(last), last);
            c.due("the last", x.order(0), last);
            c.due("rank", x.count(6), 0);
            c.due("bad", x.order(last + 1), -2);
            c.due("bad", x.order(-1), -2);
            c.due("by dates still", x.count(6), 0);
        }
    }

    private static void everyKindOnEveryDay() {
        ShuffledDays x = Checks.life(7);
        for (int d = 0; d < 7; d++) {
            for (int kind = 5; kind >= 0; kind--) {
                c.due("day(" + d + ", " + kind + ")", x.day(d, kind), kind == 5 ? 0 : kind + 1);
            }
            c.due("the last kind again", x.day(d, 5), 0);
        }
        c.due("day 0 keeps its kind", x.day(0, 0), 5);
    }

    /** "sets of FACTS 0 .. 5, bits; none at first", filled up and emptied. */
    private static void everyFactOfEveryDay() {
        ShuffledDays x = Checks.life(7);
        x.order(5039);
        for (int d = 0; d < 7; d++) {
            c.due("needs none", x.missing(d), 0);
            needs(x, d, ALL_FACTS);
            c.due("needs all", x.missing(d), ALL_FACTS);
            c.due("teaches none", x.knows(0), 0);
        }
        for (int f = 0; f < 6; f++) {
            c.due("teaches", x.fact(6, 1, f, true), 1);
            c.due("all so far", x.knows(0), (1 << f + 1) - 1);
        }
        c.due("all taught", x.missing(0), 0);
        for (int f = 0; f < 6; f++) {
            c.due("teaches no more", x.fact(6, 1, f, false), 1);
            c.due("that one is missing", x.missing(0), 1 << f);
            c.due("needs no more", x.fact(0, 0, f, false), 1);
            c.due("nothing missing", x.missing(0), 0);
        }
        c.due("none taught", x.knows(0), 0);
    }

    /** What a day teaches is known from the next one on: there is none. */
    private static void oneDayKnowsNothing() {
        ShuffledDays x = Checks.life(1);
        teaches(x, 0, ALL_FACTS);
        x.note(0, 0);
        for (int kind = 0; kind < 6; kind++) {
            x.day(0, kind);
            c.due("knows", x.knows(0), 0);
            c.due("reads", x.reads(0), 0);
            c.due("cards", x.cards(0), 0);
            c.due("two", x.two(0), 0);
            c.due("first", x.first(0), -1);
            c.due("well", x.first(1), 1);
        }
        x.fact(0, 0, 5, true);
        c.due("a dream needs nothing", x.missing(0), 0);
        x.day(0, 4);
        c.due("what school needs is not known there", x.missing(0), 32);
        c.due("first", x.first(0), 0);
        c.due("well", x.first(1), 0);
    }

    private static void firstLivedKnowsWhatSheReads() {
        for (int first = 0; first < 7; first++) {
            ShuffledDays x = Checks.life(7);
            for (int d = 0; d < 7; d++) {
                teaches(x, d, 1 << d % 6);
            }
            x.order(first * 720);
            c.due("first lived", x.lived(0), first);
            c.due("nothing lies", x.knows(first), 0);
            x.note(0, (first + 2) % 6);
            c.due("on 0 she does not know that yet", x.knows(first), 0);
            x.note(0, first % 6);
            c.due("read on the first", x.knows(first), first > 0 ? 1 << first % 6 : 0);
            c.due("and nothing else", x.reads(first), x.knows(first));
        }
    }

    private static void lastLivedKnowsAllButItsOwn() {
        ShuffledDays x = Checks.life(6);
        for (int d = 0; d < 6; d++) {
            teaches(x, d, 1 << d);
        }
        c.due("day 5, the last", x.knows(5), 31);
        x.order(719);
        c.due("day 0, the last", x.knows(0), 62);
        c.due("day 5, the first", x.knows(5), 0);
        c.due("day 4, the second", x.knows(4), 32);
    }

    private static void notReadOnItsOwnDateNorAhead() {
        for (int d = 0; d < 7; d++) {
            ShuffledDays x = Checks.life(7);
            teaches(x, 6, 1);
            x.order(5039);
            x.note(d, 0);
            for (int e = 0; e <= d; e++) {
                c.due("the note of " + d + " on " + e, x.reads(e), 0);
            }
        }
    }

    /** "whether she has lived d or not": the day that teaches it is lived first, d last. */
    private static void readOnEachLaterDate() {
        for (int d = 0; d < 6; d++) {
            ShuffledDays x = Checks.life(7);
            teaches(x, 6, 32);
            x.order(5039);
            x.note(d, 5);
            for (int e = d + 1; e < 7; e++) {
                c.due("the note of " + d + " on " + e, x.reads(e), 32);
                c.due("known there", x.knows(e), 32);
            }
            x.tear(0);
            c.due("torn", x.reads(6), 0);
        }
    }

    private static void noteOfTheLastDate() {
        ShuffledDays x = Checks.life(7);
        teaches(x, 0, ALL_FACTS);
        for (int f = 0; f < 6; f++) {
            c.due("note", x.note(6, f), f);
        }
        for (int d = 0; d < 7; d++) {
            c.due("read nowhere", x.reads(d), 0);
        }
    }

    /** She knows it there only from the next day of hers on: nothing is written. */
    private static void noteOfWhatThatDayTeaches() {
        ShuffledDays x = Checks.life(3);
        teaches(x, 0, 1);
        x.note(0, 0);
        c.due("by dates", x.reads(1), 0);
        x.order(5);
        c.due("210", x.reads(2), 0);
        x.fact(1, 1, 0, true);
        c.due("210, 1 teaches it, too", x.reads(2), 1);
        c.due("and on 1", x.reads(1), 1);
    }

    /** A note that lies on by another: 1 knows by reading alone, 0 writes no more, and nothing is left. */
    private static void noteOfWhatIsReadThere() {
        ShuffledDays x = Checks.life(4);
        teaches(x, 3, 1);
        x.order(12 + 5);
        c.due("2310", 1000 * x.lived(0) + 100 * x.lived(1) + 10 * x.lived(2) + x.lived(3), 2310);
        x.note(0, 0);
        x.note(2, 0);
        c.due("2 reads it", x.knows(2), 1);
        x.day(0, 3);
        c.due("2 knows nothing to write", x.reads(3), 0);
        x.day(0, 0);
        x.day(2, 1);
        c.due("a child reads nothing", x.knows(2), 0);
        c.due("3 reads it from 0", x.reads(3), 1);
    }

    private static void notWritten() {
        int[] writing = {0, 1, 2, 4};
        int[] not = {3, 5};
        for (int kind : writing) {
            c.due("kind " + kind + " writes", readBehind(kind, 0), 1);
        }
        for (int kind : not) {
            c.due("kind " + kind + " does not write", readBehind(kind, 0), 0);
        }
    }

    private static void notRead() {
        int[] reading = {0, 2, 3, 5};
        int[] not = {1, 4};
        for (int kind : reading) {
            c.due("kind " + kind + " reads", readBehind(0, kind), 1);
        }
        for (int kind : not) {
            c.due("kind " + kind + " does not read", readBehind(0, kind), 0);
        }
    }

    /** 2 teaches, 0 of a kind writes, 1 of a kind reads. */
    private static int readBehind(int writes, int reads) {
        ShuffledDays x = Checks.life(3);
        teaches(x, 2, 1);
        x.order(5);
        x.note(0, 0);
        x.day(0, writes);
        x.day(1, reads);
        return x.reads(1);
    }

    private static void sixNotesOfOneDay() {
        ShuffledDays x = Checks.life(7);
        teaches(x, 6, ALL_FACTS);
        x.order(5039);
        for (int f = 5; f >= 0; f--) {
            x.note(0, f);
        }
        c.due("all of them on the next date", x.reads(1), ALL_FACTS);
        c.due("and on the last", x.reads(6), ALL_FACTS);
        c.due("not on their own", x.reads(0), 0);
    }

    private static void illLearnsNothing() {
        for (int kind = 0; kind < 6; kind++) {
            ShuffledDays x = Checks.life(2);
            teaches(x, 0, ALL_FACTS);
            x.day(0, kind);
            c.due("learnt by kind " + kind, x.knows(1), kind == 2 || kind == 5 ? 0 : ALL_FACTS);
        }
    }

    /** Known there or not. */
    private static void schoolLearnsWhatItNeeds() {
        ShuffledDays x = Checks.life(2);
        needs(x, 0, ALL_FACTS);
        x.day(0, 4);
        c.due("does not go well", x.missing(0), ALL_FACTS);
        c.due("and is learnt", x.knows(1), ALL_FACTS);
        x.day(0, 1);
        c.due("a child learns what it is taught", x.knows(1), 0);
    }

    private static void dreamNeedsNothing() {
        for (int kind = 0; kind < 6; kind++) {
            ShuffledDays x = Checks.life(1);
            needs(x, 0, ALL_FACTS);
            x.day(0, kind);
            c.due("missing on kind " + kind, x.missing(0), kind == 5 ? 0 : ALL_FACTS);
            c.due("well", x.first(1), kind == 5 ? 1 : 0);
        }
    }

    private static void goesWellIfAllIsKnown() {
        ShuffledDays x = Checks.life(2);
        needs(x, 1, ALL_FACTS);
        for (int f = 0; f < 6; f++) {
            c.due("not all", x.first(0), 1);
            c.due("one goes well", x.first(1), 1);
            c.due("missing", x.missing(1), ALL_FACTS & -(1 << f));
            x.fact(0, 1, f, true);
        }
        c.due("all", x.first(0), -1);
        c.due("both go well", x.first(1), 2);
        c.due("missing", x.missing(1), 0);
    }

    /** "the first of the ORDER that does not go well; none"; "how many DAYS do": 0 to all. */
    private static void firstAndWell() {
        ShuffledDays x = Checks.life(7);
        x.order(5039);
        for (int well = 7; well >= 0; well--) {
            c.due("well", x.first(1), well);
            c.due("the first lived of those that fail", x.first(0), well == 7 ? -1 : 6 - well);
            if (well > 0) {
                needs(x, 7 - well, 1);
            }
        }
        x.order(0);
        c.due("by dates", x.first(0), 0);
        c.due("none goes well", x.first(1), 0);
    }

    private static void cardsOfTheFirstDate() {
        for (int n = 1; n <= 7; n++) {
            ShuffledDays x = Checks.life(n);
            teaches(x, n - 1, ALL_FACTS);
            x.order(State.ORDERS_OF[n] - 1);
            c.due("no date is lesser", x.cards(0), 0);
            c.due("the last date, lived first", x.cards(n - 1), n == 1 ? 0 : ALL_FACTS);
        }
    }

    /** Not what is known on its own date or on greater ones, and not what is known there. */
    private static void cardsAreOfLesserDates() {
        ShuffledDays x = Checks.life(4);
        teaches(x, 0, 1);
        teaches(x, 1, 2);
        teaches(x, 2, 4);
        teaches(x, 3, 8);
        x.order(23);
        c.due("3 knows nothing; 0, 1, 2 know 2, 4, 8", x.cards(3), 14);
        c.due("2 knows 8; 1 knows 4", x.cards(2), 6);
        c.due("1 knows 4, 8; 0 knows 2, 4, 8", x.cards(1), 2);
        x.order(0);
        for (int d = 0; d < 4; d++) {
            c.due("by dates no cards", x.cards(d), 0);
        }
        x.order(6);
        c.due("1023: 0 knows what 1 teaches", x.cards(1), 2);
        c.due("1023: 2 knows it, too", x.cards(2), 0);
    }

    /** "The other one's ORDER, as a RANK (0 at first)". */
    private static void otherByDatesAtFirst() {
        for (int n = 1; n <= 7; n++) {
            int last = State.ORDERS_OF[n] - 1;
            ShuffledDays x = Checks.life(n);
            teaches(x, 0, 1);
            x.order(last);
            c.due("hers reversed, the other's by dates", x.two(n - 1), 0);
            c.due("at first", x.other(last), 0);
            c.due("the last", x.other(last), last);
            c.due("bad", x.other(last + 1), -2);
            c.due("both alike", x.two(0), x.knows(0));
            c.due("the last still", x.other(0), last);
        }
    }

    /** "SETTLE a FACT: how many DAYS both KNOW it on; the first date; none". */
    private static void settleFromNoneToAll() {
        ShuffledDays x = Checks.life(7);
        for (int f = 0; f < 6; f++) {
            c.due("none", x.settle(f, 0), 0);
            c.due("no date", x.settle(f, 1), -1);
        }
        teaches(x, 6, 32);
        x.order(5039);
        x.other(4320);
        c.due("all but 6", x.settle(5, 0), 6);
        c.due("from the first date", x.settle(5, 1), 0);
        x.note(0, 5);
        c.due("all", x.settle(5, 0), 7);
        c.due("from the first date", x.settle(5, 1), 0);
        x.fact(6, 1, 5, false);
        teaches(x, 5, 32);
        x.tear(0);
        x.order(0);
        x.other(0);
        c.due("the last date alone", x.settle(5, 0), 1);
        c.due("the last date alone", x.settle(5, 1), 6);
        x.order(5039);
        c.due("never both", x.settle(5, 0), 0);
        c.due("never both", x.settle(5, 1), -1);
    }

    /** All that it teaches is his. */
    private static void gameOfOneDay() {
        ShuffledDays x = Checks.life(1);
        c.due("nothing", x.game(0), 0);
        c.due("the one day", x.game(1), 0);
        for (int f = 0; f < 6; f++) {
            x.fact(0, 1, f, true);
            c.due("all so far", x.game(0), f + 1);
            c.due("the one day", x.game(1), 0);
        }
        for (int kind = 0; kind < 6; kind++) {
            x.day(0, kind);
            c.due("whatever its kind", x.game(0), 6);
        }
    }

    /** "of like ones the least"; "those that either has already" go to nobody again. */
    private static void gameFromNoneToAll() {
        for (int n = 1; n <= 7; n++) {
            ShuffledDays x = Checks.life(n);
            needs(x, n - 1, ALL_FACTS);
            c.due("nothing is taught", x.game(0), 0);
            c.due("of like ones the least", x.game(1), 0);
            teaches(x, n - 1, ALL_FACTS);
            c.due("the last day teaches all", x.game(0), 6);
            c.due("the last day", x.game(1), n - 1);
            for (int d = 0; d < n - 1; d++) {
                teaches(x, d, ALL_FACTS);
            }
            c.due("each teaches all: it goes but once", x.game(0), 6);
            c.due("of like ones the least", x.game(1), 0);
        }
    }

    private static void gameOfSevenDays() {
        ShuffledDays x = Checks.life(7);
        for (int d = 0; d < 6; d++) {
            teaches(x, d, 1 << d);
        }
        c.due("six of one each: three to each", x.game(0), 0);
        // 6 teaches nothing and is no worse to name than any other, but 0 is less
        c.due("of like ones the least", x.game(1), 0);
        x.fact(0, 1, 0, false);
        c.due("five of one each: one more", x.game(0), 1);
        c.due("one that teaches", x.game(1), 1);
        x.fact(6, 1, 0, true);
        x.fact(6, 1, 1, true);
        c.due("two at once, then two to each", x.game(0), 2);
        c.due("two at once", x.game(1), 6);
    }

    /** "by turns, he first": an odd one is his. */
    private static void gameByTurns() {
        for (int n = 1; n <= 6; n++) {
            ShuffledDays x = Checks.life(n);
            for (int d = 0; d < n; d++) {
                teaches(x, d, 1 << d);
            }
            c.due(n + " days of one each", x.game(0), n % 2);
        }
    }
}
