/** Section 2, promises 19 to 28: no order, one, all; the first and the last rank; no note, one, two, three. */
public final class OrdersEdgesTest {
    private static final Checks c = new Checks("OrdersEdgesTest");

    public static void main(String[] args) {
        hangFromNoneToAll();
        hangTheLastAlone();
        pairsInARowAndInARing();
        mustFromNoneToAll();
        atTheFirstAndTheLastPlace();
        atIsOneOfEachDay();
        allThatIsToldIsNotTheDiary();
        fewestOfNoneNeeded();
        fewestFirstAndLastOfAll();
        fewestLesserOneAhead();
        fewestFirstOnes();
        fewestOneIsFewerThanTwo();
        fewestSixInAll();
        fewestThreeAreTooMany();
        fewestOfTheOrderAndEachTold();
        fewestWhateverElseIsTold();
        fewestOfKinds();
        meanFromNoughtToAll();
        meanInLowestTerms();
        bestOfLikeOnes();
        bestTheLastAlone();
        bestWithNoneGoingWell();
        whenTheFirstAndTheLast();
        whenNever();
        diaryTornOutOrNothingKnown();
        tornFromNoneToAll();
        tornWithPairsAndPlaces();
        promiseFromNeverToAlways();
        promiseWhateverIsTold();
        promiseOfKinds();
        promiseChangesNoDay();
        c.end();
    }

    /** "how many (i = NONE), the i-th. -5: not so many": the last i that is, the first that is not. */
    private static void hangFromNoneToAll() {
        for (int n = 1; n <= 7; n++) {
            int orders = State.ORDERS_OF[n];
            ShuffledDays x = Checks.life(n);
            c.due("all of " + n, x.hang(-1), orders);
            c.due("the first", x.hang(0), 0);
            c.due("the last", x.hang(orders - 1), orders - 1);
            c.due("one more", x.hang(orders), -5);
            c.due("the greatest int", x.hang(Integer.MAX_VALUE), -5);
            x.fact(n - 1, 0, 5, true);
            c.due("the last day fails: none", x.hang(-1), 0);
            c.due("no first", x.hang(0), -5);
        }
    }

    private static void hangTheLastAlone() {
        for (int n = 2; n <= 7; n++) {
            ShuffledDays x = Checks.life(n);
            for (int d = 0; d < n - 1; d++) {
                x.ahead(d + 1, d);
            }
            c.due("one alone", x.hang(-1), 1);
            c.due("the last rank", x.hang(0), State.ORDERS_OF[n] - 1);
            c.due("no second", x.hang(1), -5);
            c.due("best", x.best(), State.ORDERS_OF[n] - 1);
            c.due("torn", x.torn(1), State.ORDERS_OF[n] - 1);
            x.fact(n - 1, 0, 0, true);
            c.due("and it fails", x.hang(-1), 0);
            c.due("best all the same", x.best(), State.ORDERS_OF[n] - 1);
        }
    }

    /** Six pairs are as many as put seven days into a row; three put three days into a ring. */
    private static void pairsInARowAndInARing() {
        ShuffledDays x = Checks.life(7);
        for (int d = 5; d >= 0; d--) {
            x.ahead(d, d + 1);
        }
        c.due("by dates alone", x.hang(-1), 1);
        c.due("by dates", x.hang(0), 0);
        c.due("all ahead of the last", x.must(6), 63);
        c.due("none ahead of the first", x.must(0), 0);
        x.life(3);
        x.ahead(0, 1);
        x.ahead(1, 2);
        c.due("a row of three", x.hang(-1), 1);
        x.ahead(2, 0);
        c.due("a ring", x.hang(-1), 0);
        x.tear(1);
        c.due("torn", x.hang(-1), 6);
    }

    private static void mustFromNoneToAll() {
        for (int n = 1; n <= 7; n++) {
            ShuffledDays x = Checks.life(n);
            for (int d = 0; d < n; d++) {
                c.due("nothing must", x.must(d), 0);
            }
            x.at(0, n - 1);
            c.due("all others must", x.must(0), (1 << n) - 2);
            x.at(0, 0);
            c.due("none can", x.must(0), 0);
            c.due("that one must", x.must(n - 1), n == 1 ? 0 : 1);
        }
    }

    private static void atTheFirstAndTheLastPlace() {
        for (int n = 1; n <= 7; n++) {
            ShuffledDays x = Checks.life(n);
            int rest = State.ORDERS_OF[n - 1];
            c.due("at first none", x.at(n - 1, 0), -1);
            c.due("the last day first", x.hang(-1), rest);
            c.due("the last day first", x.hang(0), (n - 1) * rest);
            c.due("was the first place", x.at(n - 1, n - 1), 0);
            c.due("by dates", x.hang(0), 0);
            c.due("was the last place", x.at(n - 1, -1), n - 1);
            c.due("none again", x.hang(-1), State.ORDERS_OF[n]);
            c.due("was none", x.at(n - 1, -1), -1);
            for (int d = 0; d < n; d++) {
                x.at(d, n - 1 - d);
            }
            c.due("a place for each", x.hang(-1), 1);
            c.due("reversed", x.hang(0), State.ORDERS_OF[n] - 1);
        }
    }

    /** A second place told of a day stands for the first; a second day told of a place stands beside it. */
    private static void atIsOneOfEachDay() {
        ShuffledDays x = Checks.life(3);
        x.at(0, 0);
        c.due("was", x.at(0, 2), 0);
        c.due("the last told counts", x.hang(0), 3);
        c.due("of the other day none", x.at(1, 2), -1);
        c.due("two in one place", x.hang(-1), 0);
        c.due("bad", x.at(0, 3), -10);
        c.due("bad changes nothing", x.at(0, -1), 2);
        c.due("1 is last", x.hang(-1), 2);
    }

    /** For HANG TOGETHER, MUST, MEAN, BEST and WHEN it is AHEAD and AT; THE DIARY counts for promise 27 alone. */
    private static void allThatIsToldIsNotTheDiary() {
        ShuffledDays x = Checks.life(3);
        x.diary(0, 63);
        c.due("torn", x.torn(0), 0);
        c.due("hang", x.hang(-1), 6);
        c.due("must", x.must(0), 0);
        c.due("mean", x.mean(), 1);
        c.due("best", x.best(), 0);
        c.due("when", x.when(0, 0), 7);
    }

    private static void fewest(ShuffledDays x, String what, int many, int first, int second) {
        c.due(what + ": how many", x.notes(0), many);
        c.due(what + ": the first", x.notes(1), first);
        c.due(what + ": the second", x.notes(2), second);
    }

    private static void fewestOfNoneNeeded() {
        for (int n = 1; n <= 7; n++) {
            ShuffledDays x = Checks.life(n);
            fewest(x, "all well", 0, -1, -1);
            for (int f = 0; f < 6; f++) {
                x.note(n - 1, f);
            }
            fewest(x, "all well, six notes", 0, -1, -1);
            x.fact(0, 0, 0, true);
            fewest(x, "the first date reads nothing", -1, -1, -1);
        }
    }

    /** The last date first: it needs what all know that live behind it. */
    private static ShuffledDays lastDateFirst(int n, int needed) {
        ShuffledDays x = Checks.life(n);
        x.order((n - 1) * State.ORDERS_OF[n - 1]);
        Checks.facts(x, n - 1, 1, needed);
        Checks.facts(x, n - 1, 0, needed);
        return x;
    }

    /** 0 is a note, of day 0 and fact 0; 54 and 55 are the last two that can help. */
    private static void fewestFirstAndLastOfAll() {
        fewest(lastDateFirst(2, 1), "the least of all", 1, 0, -1);
        fewest(lastDateFirst(2, 32), "the last fact", 1, 5, -1);
        fewest(lastDateFirst(7, 3), "the least two", 2, 0, 1);
        ShuffledDays x = lastDateFirst(7, 48);
        for (int d = 0; d < 5; d++) {
            fewest(x, "day " + d + " is the least that writes", 2, 10 * d + 4, 10 * d + 5);
            x.day(d, 3);
        }
        fewest(x, "the last two of all", 2, 54, 55);
        x.note(5, 4);
        fewest(x, "the last of all", 1, 55, -1);
        x.day(5, 3);
        fewest(x, "nobody writes", -1, -1, -1);
    }

    /** "the lesser one ahead": by 10 DAY and FACT, so a lesser day with a greater fact is the lesser one. */
    private static void fewestLesserOneAhead() {
        ShuffledDays x = Checks.life(3);
        Checks.facts(x, 1, 1, 1);
        Checks.facts(x, 2, 1, 32);
        Checks.facts(x, 2, 0, 33);
        x.order(5);
        c.due("210", x.lived(0), 2);
        fewest(x, "0 knows both", 2, 0, 5);
        x.fact(1, 1, 0, false);
        x.fact(0, 1, 0, true);
        x.order(4);
        c.due("201", x.lived(1), 0);
        fewest(x, "0 knows 5 alone, 1 knows both", 2, 5, 10);
    }

    /** "the first such ones": of all pairs the one with the least first, then with the least second. */
    private static void fewestFirstOnes() {
        ShuffledDays x = lastDateFirst(4, 6);
        fewest(x, "all on day 0", 2, 1, 2);
        x.day(0, 5);
        fewest(x, "all on day 1", 2, 11, 12);
        x.day(0, 0);
        x.note(1, 1);
        fewest(x, "one is there: the least day for the other", 1, 2, -1);
        x.note(2, 2);
        fewest(x, "both are there", 0, -1, -1);
    }

    private static void fewestOneIsFewerThanTwo() {
        ShuffledDays x = lastDateFirst(3, 32);
        fewest(x, "one, though two of less would do as well", 1, 5, -1);
        x.day(0, 3);
        fewest(x, "one, greater", 1, 15, -1);
    }

    /** "0 to 2; 6 in all at most": with 4, 5 and 6 notes. */
    private static void fewestSixInAll() {
        for (int there = 0; there <= 6; there++) {
            ShuffledDays two = lastDateFirst(3, 3);
            ShuffledDays one = lastDateFirst(3, 1);
            ShuffledDays none = lastDateFirst(3, 0);
            for (int i = 0; i < there; i++) {
                two.note(2, i);
                one.note(2, i);
                none.note(2, i);
            }
            boolean fitTwo = there <= 4;
            boolean fitOne = there <= 5;
            fewest(two, there + " notes and two more", fitTwo ? 2 : -1, fitTwo ? 0 : -1, fitTwo ? 1 : -1);
            fewest(one, there + " notes and one more", fitOne ? 1 : -1, fitOne ? 0 : -1, -1);
            fewest(none, there + " notes and none more", 0, -1, -1);
        }
    }

    private static void fewestThreeAreTooMany() {
        fewest(lastDateFirst(3, 7), "three", -1, -1, -1);
        fewest(lastDateFirst(3, 63), "six", -1, -1, -1);
        ShuffledDays x = lastDateFirst(3, 7);
        x.note(1, 2);
        fewest(x, "three, one is there", 2, 0, 1);
    }

    private static void fewestOfTheOrderAndEachTold() {
        ShuffledDays x = Checks.life(3);
        x.fact(2, 1, 0, true);
        x.fact(2, 0, 0, true);
        fewest(x, "by dates 2 never knows it", -1, -1, -1);
        x.order(4);
        fewest(x, "201: noted on 0", 1, 0, -1);
        x.fact(0, 1, 0, true);
        fewest(x, "201: 0 knows it by 2", 1, 0, -1);
        x.order(1);
        x.fact(0, 1, 5, true);
        x.fact(1, 0, 5, true);
        fewest(x, "021: learnt on 0", 0, -1, -1);
        for (int i = 0; i < 3; i++) {
            x.tear(3);
            for (int told = 0; told < 3; told++) {
                x.told(told == i ? 4 : 1);
            }
            fewest(x, "021, and 201 told as number " + i, 1, 0, -1);
            x.tear(3);
            for (int told = 0; told < 3; told++) {
                x.told(told == i ? 3 : 1);
            }
            fewest(x, "021, and 120 told as number " + i, -1, -1, -1);
        }
    }

    private static void fewestWhateverElseIsTold() {
        ShuffledDays x = lastDateFirst(3, 1);
        x.ahead(0, 2);
        x.ahead(2, 0);
        x.at(2, 2);
        x.diary(0, 63);
        x.other(3);
        fewest(x, "of the order as it is", 1, 0, -1);
        c.due("it stays", x.count(6), 4);
        c.due("no note is told by it", x.count(1), 0);
        c.due("and none lies", x.reads(2), 0);
    }

    /** Who does not read is not helped, who needs nothing needs no help. */
    private static void fewestOfKinds() {
        int[] due = {1, -1, -1, 1, -1, 0};
        for (int kind = 0; kind < 6; kind++) {
            ShuffledDays x = lastDateFirst(3, 8);
            x.day(2, kind);
            c.due("the day that teaches and needs is of kind " + kind, x.notes(0), due[kind]);
        }
    }

    private static void fraction(ShuffledDays x, String what, int answer, long above, long below) {
        c.due(what, answer, 1);
        c.due(what + ": above", x.part(0), above);
        c.due(what + ": below", x.part(1), below);
    }

    /** "THE FRACTION is 0 by 1 at first; lowest terms, below above 0." */
    private static void meanFromNoughtToAll() {
        for (int n = 1; n <= 7; n++) {
            ShuffledDays x = Checks.life(n);
            c.due("above at first", x.part(0), 0);
            c.due("below at first", x.part(1), 1);
            fraction(x, "all of " + n, x.mean(), n, 1);
            for (int d = 0; d < n; d++) {
                x.fact(d, 0, d % 6, true);
                fraction(x, d + " fail", x.mean(), n - 1 - d, 1);
            }
            c.due("none goes well", x.first(1), 0);
            x.day(n - 1, 5);
            fraction(x, "a dream goes well", x.mean(), 1, 1);
        }
    }

    private static void meanInLowestTerms() {
        ShuffledDays x = Checks.life(7);
        x.fact(0, 1, 0, true);
        x.fact(1, 0, 0, true);
        fraction(x, "half of one", x.mean(), 13, 2);
        x.fact(2, 1, 0, true);
        fraction(x, "two thirds of one", x.mean(), 20, 3);
        for (int d = 3; d < 7; d++) {
            x.fact(d, 1, 0, true);
        }
        fraction(x, "six sevenths of one", x.mean(), 48, 7);
        x.at(1, 1);
        fraction(x, "1 is second", x.mean(), 7, 1);
        x.at(1, 0);
        fraction(x, "1 is first", x.mean(), 6, 1);
        x.at(0, 0);
        c.due("none", x.mean(), -3);
        fraction(x, "stays", 1, 6, 1);
    }

    private static void bestOfLikeOnes() {
        for (int n = 1; n <= 7; n++) {
            ShuffledDays x = Checks.life(n);
            c.due("all alike: the least", x.best(), 0);
            x.at(n - 1, 0);
            c.due("all alike, as told: the least", x.best(), (n - 1) * State.ORDERS_OF[n - 1]);
        }
    }

    private static void bestTheLastAlone() {
        for (int n = 2; n <= 6; n++) {
            ShuffledDays x = Checks.life(n);
            for (int d = 0; d < n - 1; d++) {
                x.fact(d + 1, 1, d, true);
                x.fact(d, 0, d, true);
            }
            c.due("each needs what the next date teaches", x.best(), State.ORDERS_OF[n] - 1);
            x.order(State.ORDERS_OF[n] - 1);
            c.due("all go well", x.first(1), n);
            c.due("mean leaves it", x.mean() + x.best(), State.ORDERS_OF[n]);
        }
    }

    private static void bestWithNoneGoingWell() {
        ShuffledDays x = Checks.life(3);
        for (int d = 0; d < 3; d++) {
            x.fact(d, 0, 5, true);
        }
        c.due("none goes well by any", x.best(), 0);
        x.at(0, 2);
        c.due("nor by those as told", x.best(), 3);
    }

    /** "as the how manieth (bits, 0 on)". */
    private static void whenTheFirstAndTheLast() {
        for (int n = 1; n <= 7; n++) {
            ShuffledDays x = Checks.life(n);
            int all = (1 << n) - 1;
            for (int d = 0; d < n; d++) {
                c.due("any time", x.when(d, 0), all);
            }
            for (int d = 1; d < n; d++) {
                Checks.facts(x, d, 1, d == 1 ? 63 : 0);
            }
            c.due("with all: behind day 1", x.when(0, 63), n == 1 ? 0 : all - 1);
            c.due("with nothing: ahead of it", x.when(0, 0), n == 1 ? 1 : all >> 1);
            x.at(0, n - 1);
            c.due("the last", x.when(0, n == 1 ? 0 : 63), 1 << n - 1);
            x.at(0, 0);
            c.due("the first", x.when(0, 0), 1);
            c.due("not the first with all", x.when(0, 63), 0);
        }
    }

    private static void whenNever() {
        ShuffledDays x = Checks.life(2);
        x.fact(0, 1, 0, true);
        c.due("just the set, not a part of it", x.when(1, 3), 0);
        c.due("the set", x.when(1, 1), 2);
        c.due("the greatest set", x.when(1, 63), 0);
        x.ahead(0, 1);
        c.due("the empty set, never", x.when(1, 0), 0);
        x.ahead(1, 0);
        c.due("no order is as told: never", x.when(1, 1), 0);
        c.due("and that is no refusal", x.status(1), 0);
    }

    /** "set NONE: torn out": another thing than that she knew nothing. */
    private static void diaryTornOutOrNothingKnown() {
        for (int n = 1; n <= 7; n++) {
            ShuffledDays x = Checks.life(n);
            int last = n - 1;
            Checks.facts(x, 0, 1, 63);
            c.due("torn out at first", x.diary(last, 0), -1);
            c.due("one told", x.count(3), 1);
            c.due("she knew nothing as the last", x.torn(0), n == 1 ? 1 : State.ORDERS_OF[n - 1]);
            c.due("nothing known", x.diary(last, 63), 0);
            c.due("she knew all as the last", x.torn(0), n == 1 ? 0 : State.ORDERS_OF[n] - State.ORDERS_OF[n - 1]);
            c.due("still one told", x.count(3), 1);
            c.due("all known", x.diary(last, -1), 63);
            c.due("none told", x.count(3), 0);
            c.due("torn out", x.torn(0), State.ORDERS_OF[n]);
            c.due("torn out again", x.diary(last, -1), -1);
            for (int k = 0; k < n; k++) {
                x.diary(k, k == 0 ? 0 : 63);
            }
            c.due("every day told", x.count(3), n);
            c.due("0 is first", x.torn(0), State.ORDERS_OF[n - 1]);
            c.due("tear", x.tear(2), n);
            c.due("tear again", x.tear(2), 0);
        }
    }

    private static void tornFromNoneToAll() {
        for (int n = 1; n <= 7; n++) {
            ShuffledDays x = Checks.life(n);
            c.due("all", x.torn(0), State.ORDERS_OF[n]);
            c.due("the first rank", x.torn(1), 0);
            x.diary(0, 1);
            c.due("none", x.torn(0), 0);
            c.due("no rank", x.torn(1), -1);
            x.diary(0, 0);
            c.due("she knows nothing as the first", x.torn(0), State.ORDERS_OF[n]);
            if (n > 1) {
                x.fact(n - 1, 1, 5, true);
                x.diary(1, 32);
                c.due("the last date first", x.torn(0), State.ORDERS_OF[n - 1]);
                c.due("its first rank", x.torn(1), (n - 1) * State.ORDERS_OF[n - 1]);
                x.diary(1, 0);
                x.diary(n - 1, 0);
                c.due("the last date last", x.torn(1), 0);
            }
        }
    }

    private static void tornWithPairsAndPlaces() {
        ShuffledDays x = Checks.life(3);
        x.fact(0, 0, 5, true);
        c.due("well or not", x.torn(0), 6);
        x.ahead(2, 0);
        c.due("2 ahead of 0", x.torn(0), 3);
        c.due("120", x.torn(1), 3);
        x.at(1, 2);
        c.due("and 1 last", x.torn(0), 1);
        c.due("201", x.torn(1), 4);
        x.at(2, 1);
        c.due("and 2 in the middle: none", x.torn(0), 0);
        c.due("none", x.torn(1), -1);
    }

    private static void promiseFromNeverToAlways() {
        ShuffledDays x = Checks.life(2);
        for (int f = 0; f < 6; f++) {
            fraction(x, "half", x.promise(f, 0, 1), 1, 2);
            fraction(x, "half", x.promise(f, 1, 0), 1, 2);
        }
        x.day(0, 2);
        fraction(x, "an ill one's promise", x.promise(5, 0, 1), 0, 1);
        x.day(0, 0);
        x.fact(1, 1, 5, true);
        x.note(0, 5);
        fraction(x, "01: told; 10: 1 taught it, 0 noted it, 1 reads it", x.promise(5, 0, 1), 1, 1);
        x.life(7);
        fraction(x, "first to last of seven", x.promise(0, 0, 6), 1, 2);
        fraction(x, "last to first of seven", x.promise(5, 6, 0), 1, 2);
        for (int d = 1; d < 6; d++) {
            x.fact(d, 1, 0, true);
        }
        fraction(x, "taught by all others, too", x.promise(0, 0, 6), 6, 7);
    }

    private static void promiseWhateverIsTold() {
        ShuffledDays x = Checks.life(3);
        x.ahead(0, 1);
        fraction(x, "0 ahead of 1", x.promise(0, 0, 1), 1, 2);
        x.ahead(1, 0);
        x.at(2, 0);
        x.at(1, 0);
        x.diary(0, 63);
        x.told(5);
        x.order(5);
        c.due("no order is as told", x.hang(-1), 0);
        fraction(x, "all orders count", x.promise(0, 0, 1), 1, 2);
        fraction(x, "all orders count", x.promise(0, 2, 1), 1, 2);
    }

    /** Who promises is of a kind, and who it is made for, too. */
    private static void promiseOfKinds() {
        int[] above = {2, 2, 0, 2, 2, 0};
        for (int kind = 0; kind < 6; kind++) {
            ShuffledDays x = Checks.life(3);
            x.note(1, 3);
            x.day(0, kind);
            // 0 ahead of 2, or 0 ahead of 1 where it is noted: 201
            fraction(x, "made on a day of kind " + kind, x.promise(3, 0, 2), above[kind], above[kind] == 0 ? 1 : 3);
            x.day(0, 0);
            x.day(2, kind);
            boolean reads = kind != 1 && kind != 4;
            fraction(x, "made for a day of kind " + kind, x.promise(3, 0, 2), reads ? 2 : 1, reads ? 3 : 2);
            x.day(2, 0);
            x.day(1, kind);
            boolean writes = kind != 3 && kind != 5;
            fraction(x, "noted on a day of kind " + kind, x.promise(3, 0, 2), writes ? 2 : 1, writes ? 3 : 2);
        }
    }

    private static void promiseChangesNoDay() {
        ShuffledDays x = State.some(4).make();
        x.promise(3, 0, 2);
        long digest = x.digest();
        c.due("the same promise", x.promise(3, 0, 2), 1);
        c.due("and nothing else", x.digest(), digest);
        ShuffledDays y = State.some(4).make();
        c.alike("behind a promise", State.asksOf(x), State.asksOf(y));
        y.promise(3, 0, 2);
        c.due("a promise alone", y.digest(), digest);
        ShuffledDays z = State.some(4).make();
        z.mean();
        c.alike("behind a mean", State.asksOf(z), State.asksOf(State.some(4).make()));
    }
}
