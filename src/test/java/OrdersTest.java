/** Promises 19 to 28: orders. */
public final class OrdersTest {
    private static final Checks c = new Checks("OrdersTest");

    public static void main(String[] args) {
        promise19Hang();
        promise20Must();
        promise21Told();
        promise22Notes();
        promise22Limits();
        promise23Mean();
        promise24Best();
        promise25When();
        promise26And27Diary();
        promise28Promise();
        c.end();
    }

    private static void promise19Hang() {
        ShuffledDays x = new ShuffledDays();
        x.life(3);
        x.fact(2, 1, 0, true);
        x.fact(0, 0, 0, true);
        c.due("2 ahead of 0", x.hang(-1), 3);
        c.due("120", x.hang(0), 3);
        c.due("201", x.hang(1), 4);
        c.due("210", x.hang(2), 5);
        c.refusedNot(x, "hang(3)", -5, () -> x.hang(3));
        c.refusedNot(x, "hang far out", -5, () -> x.hang(Integer.MAX_VALUE));
        x.ahead(1, 2);
        c.due("and 1 ahead of 2", x.hang(-1), 1);
        x.at(1, 1);
        c.due("and 1 in the middle", x.hang(-1), 0);
        c.due("none", x.hang(0), -5);
        x.at(1, -1);
        x.diary(0, 63);
        c.due("whatever the diary says", x.hang(-1), 1);
        c.refused(x, "hang(-2)", -2, -10, () -> x.hang(-2));
        c.refused(x, "hang least", -2, -10, () -> x.hang(Integer.MIN_VALUE));
        x.life(7);
        c.due("all of seven", x.hang(-1), 5040);
        c.due("the last of seven", x.hang(5039), 5039);
        c.due("not so many", x.hang(5040), -5);
        x.at(6, 0);
        c.due("720 with 6 first", x.hang(-1), 720);
        c.due("the first with 6 first", x.hang(0), 4320);
        x.life(1);
        c.due("one", x.hang(-1), 1);
        x.fact(0, 0, 0, true);
        c.due("one that fails", x.hang(-1), 0);
    }

    private static void promise20Must() {
        ShuffledDays x = new ShuffledDays();
        c.due("nothing must", x.must(3), 0);
        x.fact(0, 1, 0, true);
        x.fact(1, 1, 0, true);
        x.fact(2, 0, 0, true);
        x.fact(2, 1, 1, true);
        x.fact(3, 0, 1, true);
        c.due("0 or 1 is no must", x.must(2), 0);
        c.due("2 must be ahead of 3", x.must(3), 4);
        x.ahead(3, 1);
        c.due("so 0 must, too", x.must(3), 5);
        c.due("and all for 1", x.must(1), 13);
        c.due("none for 0", x.must(0), 0);
        x.at(0, 3);
        c.no(x, "none hang together", () -> x.must(0));
        x.life(3);
        x.at(0, 2);
        c.due("120 and 210", x.must(1), 0);
        c.due("120 and 210", x.must(0), 6);
        x.fact(2, 1, 0, true);
        x.fact(1, 0, 0, true);
        c.due("210, the last", x.must(1), 4);
        c.due("210, the last", x.must(2), 0);
        c.badOutside(x, "must", 0, 3, -2, x::must);
    }

    private static void promise21Told() {
        ShuffledDays x = new ShuffledDays();
        c.due("told", x.told(5), 0);
        c.due("told", x.told(5), 1);
        c.badOutside(x, "told", 0, 23, -2, x::told);
        c.due("told", x.told(23), 2);
        c.full(x, "a fourth", () -> x.told(0));
        c.bad(x, "bad ahead of full", () -> x.told(24));
        c.due("count(4)", x.count(4), 3);
    }

    private static void fewest(ShuffledDays x, String what, int many, int first, int second) {
        c.due(what + ": how many", x.notes(0), many);
        c.due(what + ": first", x.notes(1), first);
        c.due(what + ": second", x.notes(2), second);
    }

    private static void promise22Notes() {
        ShuffledDays x = new ShuffledDays();
        fewest(x, "nothing needed", 0, -1, -1);
        // 3 teaches fact 0 and is lived first, 2 needs it: learnt, no note
        x.fact(3, 1, 0, true);
        x.fact(2, 0, 0, true);
        x.order(23);
        fewest(x, "learnt", 0, -1, -1);
        // by dates 2 is lived ahead of 3: no note can help, as nobody knows it at a lesser date
        x.told(0);
        fewest(x, "none can help", -1, -1, -1);
        x.tear(3);
        // 3012: she knows it on 0, 1 and 2; 3 needs it, too, and reads it by one note
        x.fact(3, 0, 0, true);
        x.order(18);
        fewest(x, "the least day", 1, 0, -1);
        x.day(0, 3);
        fewest(x, "a busy day does not write", 1, 10, -1);
        x.told(19);
        x.told(20);
        fewest(x, "by more orders", 1, 10, -1);
        x.note(1, 0);
        fewest(x, "noted already", 0, -1, -1);
        x.tear(0);
        x.day(3, 1);
        fewest(x, "a child does not read", -1, -1, -1);
        c.badOutside(x, "notes", 0, 2, -10, x::notes);
    }

    private static void promise22Limits() {
        // 3 is lived first and needs what it and 2 teach: two notes on one or two days
        ShuffledDays x = new ShuffledDays();
        x.fact(3, 1, 5, true);
        x.fact(2, 1, 1, true);
        x.fact(3, 0, 5, true);
        x.fact(3, 0, 1, true);
        x.order(22);
        c.due("3201", x.lived(2), 0);
        fewest(x, "two notes, lesser ahead", 2, 1, 5);
        x.day(0, 5);
        fewest(x, "two notes of day 1", 2, 11, 15);
        x.day(0, 0);
        x.told(21);
        fewest(x, "3120 as well", 2, 1, 5);
        x.told(19);
        fewest(x, "3021: on 0 she does not know 1 yet", -1, -1, -1);
        x.tear(3);
        x.told(21);
        x.told(23);
        fewest(x, "3210 as well", 2, 1, 5);
        x.told(0);
        fewest(x, "by dates 5 is never known ahead", -1, -1, -1);
        x.tear(3);
        x.note(0, 0);
        x.note(0, 2);
        x.note(0, 3);
        x.note(0, 4);
        fewest(x, "six in all", 2, 1, 5);
        x.note(1, 0);
        fewest(x, "seven are too many", -1, -1, -1);
        x.fact(3, 0, 5, false);
        fewest(x, "one more is not", 1, 1, -1);
        x.note(1, 2);
        fewest(x, "a seventh note", -1, -1, -1);
        x.fact(3, 0, 1, false);
        fewest(x, "none more", 0, -1, -1);
        // three facts need three notes
        x.life(2);
        x.fact(1, 1, 0, true);
        x.fact(1, 1, 1, true);
        x.fact(1, 1, 2, true);
        x.fact(1, 0, 0, true);
        x.fact(1, 0, 1, true);
        x.order(1);
        fewest(x, "two of two", 2, 0, 1);
        x.fact(1, 0, 2, true);
        fewest(x, "three are too many", -1, -1, -1);
    }

    private static void mean(ShuffledDays x, String what, long above, long below) {
        c.due(what + ": mean", x.mean(), 1);
        c.due(what + ": above", x.part(0), above);
        c.due(what + ": below", x.part(1), below);
    }

    private static void promise23Mean() {
        ShuffledDays x = new ShuffledDays();
        mean(x, "all well", 4, 1);
        x.fact(0, 1, 0, true);
        x.fact(3, 0, 0, true);
        mean(x, "half of them", 7, 2);
        x.fact(2, 1, 0, true);
        mean(x, "two of three", 11, 3);
        x.ahead(0, 3);
        mean(x, "as told", 4, 1);
        x.at(0, 3);
        c.no(x, "none", x::mean);
        c.due("the fraction stays", x.part(0), 4);
        x.life(1);
        x.fact(0, 0, 0, true);
        mean(x, "nought", 0, 1);
        x.life(3);
        x.fact(0, 1, 0, true);
        x.fact(1, 0, 0, true);
        x.at(2, 0);
        x.diary(0, 63);
        mean(x, "2 first, whatever the diary says", 5, 2);
    }

    private static void promise24Best() {
        ShuffledDays x = new ShuffledDays();
        c.due("all alike", x.best(), 0);
        x.fact(3, 1, 0, true);
        x.fact(0, 0, 0, true);
        c.due("1230 is the first with 3 ahead of 0", x.best(), 9);
        x.fact(1, 0, 5, true);
        c.due("as well as may be", x.best(), 9);
        x.at(0, 0);
        c.due("0 first", x.best(), 0);
        x.ahead(3, 2);
        c.due("0132", x.best(), 1);
        x.ahead(3, 0);
        c.no(x, "none", x::best);
    }

    private static void promise25When() {
        ShuffledDays x = new ShuffledDays();
        c.due("any time", x.when(0, 0), 15);
        c.due("never", x.when(0, 1), 0);
        x.fact(1, 1, 0, true);
        x.fact(2, 1, 0, true);
        c.due("before both", x.when(0, 0), 3);
        c.due("behind one", x.when(0, 1), 14);
        x.ahead(1, 0);
        c.due("never with nothing", x.when(0, 0), 0);
        x.at(3, 3);
        c.due("3 is last", x.when(0, 1), 6);
        c.due("3 is last", x.when(3, 1), 8);
        x.diary(0, 63);
        c.due("whatever the diary says", x.when(3, 1), 8);
        c.due("all facts", x.when(3, 63), 0);
        x.life(3);
        x.fact(2, 1, 0, true);
        x.ahead(2, 1);
        x.ahead(1, 0);
        c.due("the last order", x.when(0, 1), 4);
        x.life(4);
        x.at(3, 0);
        x.ahead(0, 3);
        c.due("none is as told", x.when(3, 0), 0);
        c.badOutside(x, "when(..)", 0, 3, -2, t -> x.when(t, 0));
        c.badOutside(x, "when(0, ..)", 0, 63, -2, t -> x.when(0, t));
    }

    private static void promise26And27Diary() {
        ShuffledDays x = new ShuffledDays();
        x.fact(0, 1, 0, true);
        x.fact(1, 1, 1, true);
        c.due("torn out: all", x.torn(0), 24);
        c.due("torn out: first", x.torn(1), 0);
        c.due("diary", x.diary(1, 2), -1);
        c.due("1 is first", x.torn(0), 6);
        c.due("1 is first", x.torn(1), 6);
        c.due("diary", x.diary(2, 3), -1);
        c.due("10..", x.torn(0), 2);
        c.due("diary", x.diary(2, 2), 3);
        c.due("1 and 2 or 3, then another", x.torn(0), 4);
        c.due("1203", x.torn(1), 8);
        x.ahead(3, 0);
        c.due("and 3 ahead of 0", x.torn(0), 3);
        c.due("1230", x.torn(1), 9);
        x.at(2, 3);
        c.due("and 2 last", x.torn(0), 1);
        c.due("1302", x.torn(1), 10);
        c.due("count(3)", x.count(3), 2);
        c.due("diary", x.diary(0, 63), -1);
        c.due("never", x.torn(0), 0);
        c.due("never", x.torn(1), -1);
        c.due("tear", x.tear(2), 3);
        c.due("torn out: as told", x.torn(0), 3);
        x.fact(3, 0, 5, true);
        c.due("well or not", x.torn(0), 3);
        c.badOutside(x, "diary(..)", 0, 3, -10, t -> x.diary(t, 0));
        c.badOutside(x, "diary(0, ..)", -1, 63, -10, t -> x.diary(0, t));
        c.badOutside(x, "torn", 0, 1, -10, x::torn);
    }

    private static void promised(ShuffledDays x, int f, int a, int b, long above, long below) {
        String what = "promise(" + f + ", " + a + ", " + b + ")";
        c.due(what, x.promise(f, a, b), 1);
        c.due(what + " above", x.part(0), above);
        c.due(what + " below", x.part(1), below);
    }

    private static void promise28Promise() {
        ShuffledDays x = new ShuffledDays();
        promised(x, 0, 0, 3, 1, 2);
        promised(x, 5, 3, 0, 1, 2);
        c.due("nothing is taught by it", x.knows(3), 0);
        x.fact(1, 1, 0, true);
        promised(x, 0, 0, 3, 2, 3);
        promised(x, 0, 1, 3, 1, 2);
        x.ahead(3, 0);
        x.at(1, 3);
        promised(x, 0, 0, 3, 2, 3);
        x.day(0, 2);
        promised(x, 0, 0, 3, 1, 2);
        promised(x, 1, 0, 3, 0, 1);
        x.life(3);
        x.note(0, 0);
        // 2 ahead of 1 (half), or 2 ahead of 0 where it is noted: 120
        promised(x, 0, 2, 1, 2, 3);
        x.day(1, 1);
        promised(x, 0, 2, 1, 1, 2);
        c.bad(x, "alike", () -> x.promise(0, 1, 1));
        c.badOutside(x, "promise(..)", 0, 5, -2, t -> x.promise(t, 0, 1));
        c.badOutside(x, "promise(0, ..)", 0, 2, -2, t -> x.promise(0, t, 1));
        c.badOutside(x, "promise(0, 0, ..)", 0, 2, -2, t -> x.promise(0, 0, t));
    }
}
