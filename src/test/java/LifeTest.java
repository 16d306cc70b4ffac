/** Promises 1 to 12: a life as it is told. */
public final class LifeTest {
    private static final Checks c = new Checks("LifeTest");

    public static void main(String[] args) {
        promise1New();
        promise2Life();
        promise3Day();
        promise4Fact();
        promise5Note();
        promise6Ahead();
        promise7At();
        promise8Tear();
        promise9Order();
        promise10Type();
        promise11Clear();
        promise12Read();
        promise12Faults();
        promise12Refused();
        c.end();
    }

    private static long digestAtFirst(int n, int bytes, long above, long below) {
        long h = Checks.fold(n, 0, 0, 0, 0, bytes, 0);
        for (int d = 0; d < n; d++) {
            h = (((h * 31) * 31) * 31) * 31 - 1;
        }
        for (int k = 0; k < n; k++) {
            h = 31 * h - 1;
        }
        h = (h * 31) * 31;
        return (31 * h + above) * 31 + below;
    }

    private static void promise1New() {
        ShuffledDays x = new ShuffledDays();
        int[] counts = {4, 0, 0, 0, 0, 0, 0};
        for (int i = 0; i < counts.length; i++) {
            c.due("new count(" + i + ")", x.count(i), counts[i]);
        }
        c.due("new part(0)", x.part(0), 0);
        c.due("new part(1)", x.part(1), 1);
        for (int d = 0; d < 4; d++) {
            c.due("new lived", x.lived(d), d);
            c.due("new knows", x.knows(d), 0);
            c.due("new missing", x.missing(d), 0);
            c.due("new kind", x.day(d, 0), 0);
            c.due("new at", x.at(d, -1), -1);
            c.due("new diary", x.diary(d, -1), -1);
        }
        c.due("new sofar", x.sofar(0), 0);
        c.due("new other", x.other(0), 0);
        c.due("new digest", x.digest(), digestAtFirst(4, 0, 0, 1));
        for (int i = 0; i < 3; i++) {
            c.due("new status", x.status(i), 0);
        }
        c.due("new from", x.from(0), -3);
        c.due("new from", x.from(1), -3);
        c.due("constants", ShuffledDays.NONE * 1000 + ShuffledDays.BAD * 100 + ShuffledDays.NO * 10 + ShuffledDays.FULL, -1234);
    }

    /** Tells something of every sort. */
    private static void tellAll(ShuffledDays x) {
        x.day(0, 3);
        x.fact(1, 0, 2, true);
        x.fact(2, 1, 2, true);
        x.note(2, 2);
        x.ahead(2, 1);
        x.at(0, 3);
        x.diary(1, 4);
        x.told(1);
        x.other(2);
        x.order(3);
        x.live();
    }

    private static void promise2Life() {
        ShuffledDays x = new ShuffledDays();
        tellAll(x);
        c.due("mean", x.mean(), 1);
        long above = x.part(0);
        long below = x.part(1);
        Checks.type(x, "life");
        x.image(0);
        c.due("life(7)", x.life(7), 4);
        c.due("digest after life(7)", x.digest(), digestAtFirst(7, 4, above, below));
        c.due("sofar after life", x.sofar(0), 0);
        c.due("life(1)", x.life(1), 7);
        c.due("digest after life(1)", x.digest(), digestAtFirst(1, 4, above, below));
        c.badOutside(x, "life", 1, 7, -2, x::life);
        c.due("from after life", x.from(0), 1);
        c.due("days of the image", x.count(0), 4);
        c.due("life tells living anew", x.sofar(0), 1);
        x.life(4);
        c.due("life tells living anew", x.sofar(0), 0);
    }

    private static void promise3Day() {
        ShuffledDays x = new ShuffledDays();
        c.due("day(0, 5)", x.day(0, 5), 0);
        c.due("day(0, 2)", x.day(0, 2), 5);
        c.due("day(3, 1)", x.day(3, 1), 0);
        c.due("day(0, 0)", x.day(0, 0), 2);
        c.due("day(3, 1)", x.day(3, 1), 1);
        c.badOutside(x, "day(.., 0)", 0, 3, -2, t -> x.day(t, 0));
        c.badOutside(x, "day(0, ..)", 0, 5, -2, t -> x.day(0, t));
        x.live();
        c.due("day bad", x.day(0, 6), -2);
        c.due("a refused day leaves what is lived", x.sofar(0), 1);
        x.day(1, 0);
        c.due("day begins it anew", x.sofar(0), 0);
    }

    private static void promise4Fact() {
        ShuffledDays x = new ShuffledDays();
        c.due("teaches", x.fact(0, 1, 5, true), 1);
        c.due("needs", x.fact(1, 0, 5, true), 1);
        c.due("what is taught", x.knows(1), 32);
        c.due("what is needed", x.missing(1), 0);
        c.no(x, "taught already", () -> x.fact(0, 1, 5, true));
        c.no(x, "not needed already", () -> x.fact(0, 0, 5, false));
        c.due("teaches no more", x.fact(0, 1, 5, false), 1);
        c.due("what is taught", x.knows(1), 0);
        c.due("what is missing", x.missing(1), 32);
        c.due("needs no more", x.fact(1, 0, 5, false), 1);
        c.due("what is missing", x.missing(1), 0);
        c.badOutside(x, "fact(..)", 0, 3, -2, t -> x.fact(t, 0, 0, true));
        c.badOutside(x, "fact(0, ..)", 0, 1, -2, t -> x.fact(0, t, 0, true));
        c.badOutside(x, "fact(0, 0, ..)", 0, 5, -2, t -> x.fact(0, 0, t, true));
        c.badOutside(x, "fact(0, 0, .., false)", 0, 5, -2, t -> x.fact(0, 0, t, false));
        x.live();
        x.fact(0, 0, 0, false);
        c.due("a refused fact leaves what is lived", x.sofar(0), 1);
        x.fact(3, 1, 0, true);
        c.due("fact begins it anew", x.sofar(0), 0);
    }

    private static void promise5Note() {
        ShuffledDays x = new ShuffledDays();
        x.live();
        for (int i = 0; i < 5; i++) {
            c.due("note number", x.note(i % 4, i), i);
        }
        c.due("note begins it anew", x.sofar(0), 0);
        c.no(x, "note twice", () -> x.note(0, 0));
        c.due("note number", x.note(3, 5), 5);
        c.due("count(1)", x.count(1), 6);
        c.no(x, "note twice ahead of full", () -> x.note(3, 3));
        c.full(x, "a seventh note", () -> x.note(0, 5));
        c.badOutside(x, "note(..)", 0, 3, -2, t -> x.note(t, 0));
        c.badOutside(x, "note(0, ..)", 0, 5, -2, t -> x.note(0, t));
        x.live();
        c.due("full", x.note(0, 5), -4);
        c.due("a refused note leaves what is lived", x.sofar(0), 1);
    }

    private static void promise6Ahead() {
        ShuffledDays x = new ShuffledDays();
        c.due("pair", x.ahead(3, 0), 0);
        c.due("1230 is the first", x.hang(0), 9);
        c.due("pair", x.ahead(3, 0), 1);
        c.due("pair", x.ahead(0, 3), 2);
        c.due("pairs against one another", x.hang(-1), 0);
        for (int i = 3; i < 6; i++) {
            c.due("pair", x.ahead(1, 2), i);
        }
        c.full(x, "a seventh pair", () -> x.ahead(1, 2));
        c.bad(x, "alike when full", () -> x.ahead(1, 1));
        c.badOutside(x, "ahead(..)", 0, 3, -2, t -> x.ahead(t, 0));
        c.badOutside(x, "ahead(0, ..)", 0, 3, -2, t -> x.ahead(0, t));
        x.tear(1);
        for (int d = 0; d < 4; d++) {
            int e = d;
            c.bad(x, "alike", () -> x.ahead(e, e));
        }
        x.live();
        x.ahead(0, 1);
        c.due("a pair leaves what is lived", x.sofar(0), 1);
    }

    private static void promise7At() {
        ShuffledDays x = new ShuffledDays();
        c.due("at", x.at(2, 0), -1);
        c.due("hang(-1)", x.hang(-1), 6);
        c.due("hang(0)", x.hang(0), 12);
        c.due("at", x.at(2, 3), 0);
        c.due("one of each day", x.hang(-1), 6);
        c.due("at", x.at(1, 3), -1);
        c.due("two in one place", x.hang(-1), 0);
        c.due("at", x.at(2, -1), 3);
        c.due("at", x.at(2, -1), -1);
        c.due("hang(-1)", x.hang(-1), 6);
        c.badOutside(x, "at(.., 0)", 0, 3, -10, t -> x.at(t, 0));
        c.badOutside(x, "at(.., NONE)", 0, 3, -10, t -> x.at(t, -1));
        c.badOutside(x, "at(0, ..)", -1, 3, -10, t -> x.at(0, t));
        x.live();
        x.at(0, 0);
        c.due("at leaves what is lived", x.sofar(0), 1);
    }

    private static void promise8Tear() {
        ShuffledDays x = new ShuffledDays();
        for (int i = 0; i < 4; i++) {
            c.due("tear nothing", x.tear(i), 0);
        }
        x.note(0, 0);
        x.note(0, 1);
        x.ahead(0, 1);
        x.ahead(0, 1);
        x.ahead(0, 1);
        x.diary(1, 0);
        x.diary(2, 1);
        x.diary(3, 63);
        x.diary(2, -1);
        x.told(4);
        c.bad(x, "tear(4)", () -> x.tear(4));
        c.badOutside(x, "tear", 0, 3, -2, x::tear);
        x.live();
        c.due("tear pairs", x.tear(1), 3);
        c.due("tear the diary", x.tear(2), 2);
        c.due("tear orders told", x.tear(3), 1);
        c.due("these leave what is lived", x.sofar(0), 1);
        c.due("notes still", x.count(1), 2);
        c.due("tear notes", x.tear(0), 2);
        c.due("notes begin it anew", x.sofar(0), 0);
        c.due("all torn", x.digest(), digestAtFirst(4, 0, 0, 1));
        c.due("a note from the first", x.note(3, 3), 0);
        c.due("a pair from the first", x.ahead(3, 2), 0);
        c.due("an order from the first", x.told(3), 0);
    }

    private static void promise9Order() {
        ShuffledDays x = new ShuffledDays();
        c.due("order", x.order(23), 0);
        c.due("reversed", x.lived(0) * 1000 + x.lived(1) * 100 + x.lived(2) * 10 + x.lived(3), 3210);
        c.due("order", x.order(9), 23);
        c.due("rank 9", x.lived(0) * 1000 + x.lived(1) * 100 + x.lived(2) * 10 + x.lived(3), 1230);
        c.due("count(6)", x.count(6), 9);
        c.badOutside(x, "order", 0, 23, -2, x::order);
        x.live();
        c.due("bad", x.order(24), -2);
        c.due("a refused order leaves what is lived", x.sofar(0), 1);
        x.order(9);
        c.due("order begins it anew", x.sofar(0), 0);
        x.life(7);
        c.due("last of seven", x.order(5039), 0);
        c.due("last of seven", x.lived(0), 6);
        c.badOutside(x, "order of seven", 0, 5039, -2, x::order);
        x.life(1);
        c.badOutside(x, "order of one", 0, 0, -2, x::order);
    }

    private static void promise10Type() {
        ShuffledDays x = new ShuffledDays();
        c.due("type(0)", x.type(0), 1);
        c.due("type(127)", x.type(127), 2);
        c.badOutside(x, "type", 0, 127, -2, x::type);
        for (int i = 3; i <= 150; i++) {
            c.due("type", x.type(32), i);
        }
        c.full(x, "the 151st byte", () -> x.type(32));
        c.bad(x, "bad ahead of full", () -> x.type(128));
        c.due("count(5)", x.count(5), 150);
    }

    private static void promise11Clear() {
        ShuffledDays x = new ShuffledDays();
        c.due("clear", x.clear(), 0);
        Checks.type(x, "life 3;");
        x.live();
        c.due("clear", x.clear(), 7);
        c.due("clear", x.clear(), 0);
        c.due("count(5)", x.count(5), 0);
        c.due("clear leaves the rest", x.sofar(0), 1);
        c.due("type", x.type(97), 1);
    }

    private static void promise12Read() {
        ShuffledDays x = new ShuffledDays();
        tellAll(x);
        x.image(1);
        String text = "life 5;day 1 4;needs 1 3;teaches 0 2;note 0 2;ahead 0 1;at 4 4;at 4 3;";
        c.due("read", Checks.readAnew(x, text), 8);
        c.due("digest", x.digest(), Checks.fold(5, 1, 1, 0, 0, text.length(), 0,
            0, 0, 4, -1, 4, 8, 0, -1, 0, 0, 0, -1, 0, 0, 0, -1, 0, 0, 0, 3,
            0, 2, 0, 1, -1, -1, -1, -1, -1, 0, 0, 0, 1));
        c.due("lived anew", x.sofar(0), 0);
        c.due("the text stays", x.count(5), text.length());
        c.due("images stay", x.from(1), 1);
        c.due("images stay", x.sofar(0), 1);
        c.due("one item", Checks.readAnew(x, "life 1;"), 1);
        c.due("one day", x.count(0), 1);
        c.due("blanks", Checks.readAnew(x, "  life  2 ; day   1   5  ;  "), 2);
        c.due("kind", x.day(1, 0), 5);
        c.due("no blanks where tokens end anyway", Checks.readAnew(x, "life3;at0 1;ahead1 2;"), 3);
        c.due("life alone makes it anew", Checks.readAnew(x, "life 4;"), 1);
        c.due("digest", x.digest(), digestAtFirst(4, 7, 0, 1));
        String longest = "life 7;";
        for (int i = 0; i < 6; i++) {
            longest += "ahead 0 " + (i + 1) + ";";
        }
        for (int i = 0; i < 10; i++) {
            longest += "day " + i % 7 + " 1;";
        }
        c.due("many items", Checks.readAnew(x, longest), 17);
        c.due("150 bytes", Checks.LONGEST.length(), 150);
        c.due("as many items as fit", Checks.readAnew(x, Checks.LONGEST), 25);
    }

    private static void fault(String text, int place) {
        ShuffledDays x = new ShuffledDays();
        tellAll(x);
        Checks.type(x, text);
        long digest = x.digest();
        c.due("read of '" + text + "'", x.read(), -10 - place);
        c.due("'" + text + "' changes nothing", x.digest(), digest);
        c.due("'" + text + "' is no refusal", x.status(0) + x.status(1) + x.status(2), 0);
    }

    private static void promise12Faults() {
        fault("", 0);
        fault("   ", 3);
        fault(" x", 1);
        fault("life", 4);
        fault("life ", 5);
        fault("life 3", 6);
        fault("life 3 ", 7);
        fault("life 3;day", 10);
        fault("life 3;day 0 1", 14);
        fault("lif 3;", 0);
        fault("lifes 3;", 0);
        fault("lifez 3;", 0);
        fault("jife 3;", 0);
        fault("lifa 3;", 0);
        fault("zlife 3;", 0);
        fault("day 0 1;", 0);
        fault(" ;", 1);
        fault("4", 0);
        fault("life ;", 5);
        fault("life life", 5);
        fault("life 3 4;", 7);
        fault("life 3;;", 7);
        fault("life 3;5", 7);
        fault("life 3;life 3;", 7);
        fault("life 3;  life 3;", 9);
        fault("life 3;day 0;", 12);
        fault("life 3;day 0 1 2;", 15);
        fault("life 3;day 0 a;", 13);
        fault("life 3;days 0 1;", 7);
        fault("life 3;Day 0 1;", 7);
        fault("life 3;dAy 0 1;", 7);
        fault("life 3:", 6);
        fault("life\t3;", 4);
        fault("life -3;", 5);
        fault("life 3;at 0 -1;", 12);
        // a number of two figures is a token that can stand nowhere: its first byte is the fault
        fault("life 12;", 5);
        fault("life 03;", 5);
        fault("life 123;", 5);
        fault("life 3;day 12;", 11);
        fault("life 3;day 1 12;", 13);
        // what stood behind the text once is none of it
        ShuffledDays x = new ShuffledDays();
        Checks.readAnew(x, "life 3;dayx");
        c.due("a word at the end", Checks.readAnew(x, "life 3;day"), -20);
        Checks.readAnew(x, "life 34");
        c.due("a figure at the end", Checks.readAnew(x, "life 3"), -16);
        Checks.readAnew(x, "life 3;;");
        c.due("a stop at the end", Checks.readAnew(x, "life 3"), -16);
        // a fault goes ahead of an item that would be refused
        fault("life 9;x", 7);
        fault("life 3;day 7 7;day", 18);
    }

    private static void refusedItem(String text, int item) {
        ShuffledDays x = new ShuffledDays();
        tellAll(x);
        Checks.type(x, text);
        long digest = x.digest();
        c.due("read of '" + text + "'", x.read(), -1000 - item);
        c.due("'" + text + "' changes nothing", x.digest(), digest);
        c.due("items are no refusals", x.status(0) + x.status(1) + x.status(2), 0);
    }

    private static void promise12Refused() {
        refusedItem("life 0;", 0);
        refusedItem("life 8;", 0);
        refusedItem("life 8;day 9 9;", 0);
        refusedItem("life 3;day 3 1;", 1);
        refusedItem("life 3;day 1 6;", 1);
        refusedItem("life 3;day 1 5;needs 3 0;", 2);
        refusedItem("life 3;needs 0 6;", 1);
        refusedItem("life 3;needs 0 5;teaches 0 5;needs 0 5;", 3);
        refusedItem("life 3;teaches 0 5;teaches 0 5;", 2);
        refusedItem("life 3;teaches 0 6;", 1);
        refusedItem("life 3;note 0 6;", 1);
        refusedItem("life 3;note 0 5;note 0 5;", 2);
        refusedItem("life 3;note 0 0;note 0 1;note 0 2;note 0 3;note 0 4;note 0 5;note 1 0;", 7);
        refusedItem("life 3;ahead 0 0;", 1);
        refusedItem("life 3;ahead 0 3;", 1);
        refusedItem("life 2;ahead 0 1;ahead 0 1;ahead 0 1;ahead 0 1;ahead 0 1;ahead 0 1;ahead 0 1;", 7);
        refusedItem("life 3;at 0 3;", 1);
        refusedItem("life 3;at 3 0;", 1);
    }
}
