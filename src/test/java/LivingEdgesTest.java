import java.util.function.ToLongFunction;

/** Section 3 and promises 33 to 41: none and all lived, what begins it anew, images, the digest, 512 calls. */
public final class LivingEdgesTest {
    private static final Checks c = new Checks("LivingEdgesTest");

    public static void main(String[] args) {
        livedFromNoneToAll();
        livedByTheOrder();
        learntAllTheSame();
        undoneToNone();
        begunAnew();
        goneOnWith();
        refusedGoesOn();
        whatSheKnowsIsNotWhatIsLived();
        imagesOfEverySize();
        imageIsKeptOverAnother();
        imageKeepsAllButThese();
        imageIsNoOneElses();
        fractionStays();
        countOfEachRow();
        digestOfAFullLife();
        tornRowIsGoneAlone();
        digestOfABareLife();
        digestOfEachNumber();
        fiveHundredAndTwelveCalls();
        c.end();
    }

    private static void livedFromNoneToAll() {
        for (int n = 1; n <= 7; n++) {
            ShuffledDays x = Checks.life(n);
            for (int k = 0; k <= n; k++) {
                c.due("lived", x.sofar(0), k);
                c.due("well", x.sofar(1), k);
                c.due("learnt", x.sofar(2), 0);
                c.due("the next one", x.live(), k < n ? 1 : -3);
            }
            c.due("lived", x.sofar(0), n);
            for (int k = n; k > 0; k--) {
                c.due("undone", x.undo(), k - 1);
                c.due("lived", x.sofar(0), k - 1);
            }
            c.due("nothing to undo", x.undo(), -3);
        }
    }

    /** "DAYS of the ORDER one by one, from the first": here from the last date. */
    private static void livedByTheOrder() {
        ShuffledDays x = Checks.life(6);
        for (int d = 0; d < 6; d++) {
            x.fact(d, 1, d, true);
        }
        x.fact(0, 0, 5, true);
        x.fact(5, 0, 0, true);
        x.order(719);
        int learnt = 0;
        for (int d = 5; d >= 0; d--) {
            c.due("day " + d, x.live(), d == 5 ? 0 : 1);
            learnt |= 1 << d;
            c.due("learnt", x.sofar(2), learnt);
            c.due("well", x.sofar(1), 5 - d);
        }
    }

    /** "(she LEARNS by it all the same)", but on a day by which nothing is. */
    private static void learntAllTheSame() {
        for (int kind = 0; kind < 6; kind++) {
            ShuffledDays x = Checks.life(1);
            x.fact(0, 0, 0, true);
            x.fact(0, 1, 1, true);
            x.day(0, kind);
            c.due("well of kind " + kind, x.live(), kind == 5 ? 1 : 0);
            c.due("well so far", x.sofar(1), kind == 5 ? 1 : 0);
            c.due("learnt of kind " + kind, x.sofar(2), kind == 2 || kind == 5 ? 0 : kind == 4 ? 3 : 2);
            x.undo();
            c.due("learnt no more", x.sofar(2), 0);
            c.due("well no more", x.sofar(1), 0);
        }
        ShuffledDays x = Checks.life(2);
        x.fact(1, 1, 0, true);
        x.order(1);
        x.note(0, 0);
        x.live();
        x.undo();
        x.live();
        c.due("read is not learnt", x.reads(1), 1);
        c.due("learnt by what is lived", x.sofar(2), 1);
    }

    /** "UNDO: the last one": what both teach is learnt still. */
    private static void undoneToNone() {
        ShuffledDays x = Checks.life(3);
        x.fact(0, 1, 0, true);
        x.fact(1, 1, 0, true);
        x.fact(1, 1, 1, true);
        x.fact(2, 0, 5, true);
        x.live();
        x.live();
        c.due("goes badly", x.live(), 0);
        int[] learnt = {0, 1, 3};
        for (int k = 2; k >= 0; k--) {
            c.due("undone", x.undo(), k);
            c.due("learnt still", x.sofar(2), learnt[k]);
            c.due("well still", x.sofar(1), k);
        }
        c.due("lived once more", x.live(), 1);
        c.due("learnt once more", x.sofar(2), 1);
    }

    private static int livedBehind(int answer, ToLongFunction<ShuffledDays> call) {
        ShuffledDays x = Checks.life(4);
        x.fact(0, 1, 0, true);
        x.note(1, 1);
        x.ahead(0, 1);
        x.diary(0, 0);
        x.told(3);
        x.at(3, 3);
        x.other(1);
        Checks.type(x, "life 4;");
        x.live();
        x.image(0);
        x.live();
        c.due("the call", call.applyAsLong(x), answer);
        return x.sofar(0);
    }

    /** "What is told of DAYS, NOTES, the ORDER, begins it anew": what was so already is told, too. */
    private static void begunAnew() {
        c.due("life", livedBehind(4, x -> x.life(4)), 0);
        c.due("day", livedBehind(0, x -> x.day(0, 1)), 0);
        c.due("day of the same kind", livedBehind(0, x -> x.day(3, 0)), 0);
        c.due("needs", livedBehind(1, x -> x.fact(3, 0, 5, true)), 0);
        c.due("teaches", livedBehind(1, x -> x.fact(3, 1, 5, true)), 0);
        c.due("teaches no more", livedBehind(1, x -> x.fact(0, 1, 0, false)), 0);
        c.due("note", livedBehind(1, x -> x.note(0, 0)), 0);
        c.due("no notes", livedBehind(1, x -> x.tear(0)), 0);
        c.due("order", livedBehind(0, x -> x.order(23)), 0);
        c.due("the same order", livedBehind(0, x -> x.order(0)), 0);
        c.due("a text", livedBehind(1, ShuffledDays::read), 0);
    }

    private static void goneOnWith() {
        c.due("ahead", livedBehind(1, x -> x.ahead(1, 0)), 2);
        c.due("at", livedBehind(3, x -> x.at(3, 0)), 2);
        c.due("at no more", livedBehind(3, x -> x.at(3, -1)), 2);
        c.due("no pairs", livedBehind(1, x -> x.tear(1)), 2);
        c.due("no diary", livedBehind(1, x -> x.tear(2)), 2);
        c.due("no orders told", livedBehind(1, x -> x.tear(3)), 2);
        c.due("diary", livedBehind(0, x -> x.diary(0, 63)), 2);
        c.due("told", livedBehind(1, x -> x.told(0)), 2);
        c.due("other", livedBehind(1, x -> x.other(5)), 2);
        c.due("type", livedBehind(8, x -> x.type(59)), 2);
        c.due("clear", livedBehind(7, ShuffledDays::clear), 2);
        c.due("image", livedBehind(1, x -> x.image(1)), 2);
        c.due("mean", livedBehind(1, ShuffledDays::mean), 2);
        c.due("promise", livedBehind(1, x -> x.promise(0, 0, 1)), 2);
        c.due("an image goes on from where it was", livedBehind(1, x -> x.from(0)), 1);
    }

    private static void refusedGoesOn() {
        c.due("life", livedBehind(-2, x -> x.life(8)), 2);
        c.due("day", livedBehind(-2, x -> x.day(0, 6)), 2);
        c.due("bad fact", livedBehind(-2, x -> x.fact(0, 0, 6, true)), 2);
        c.due("fact that is so", livedBehind(-3, x -> x.fact(0, 1, 0, true)), 2);
        c.due("bad note", livedBehind(-2, x -> x.note(0, 6)), 2);
        c.due("note that is there", livedBehind(-3, x -> x.note(1, 1)), 2);
        c.due("tear", livedBehind(-2, x -> x.tear(4)), 2);
        c.due("order", livedBehind(-2, x -> x.order(24)), 2);
        c.due("image", livedBehind(-3, x -> x.from(1)), 2);
        c.due("a fault", livedBehind(-17, x -> {
            x.type(':');
            return x.read();
        }), 2);
        c.due("an item", livedBehind(-1001, x -> {
            Checks.type(x, "at 4 0;");
            return x.read();
        }), 2);
    }

    /** What she KNOWS, READS and misses is by the whole ORDER, however much of it is lived. */
    private static void whatSheKnowsIsNotWhatIsLived() {
        ShuffledDays x = Checks.life(3);
        x.fact(2, 1, 0, true);
        x.fact(2, 0, 0, true);
        x.note(0, 0);
        x.order(4);
        for (int k = 0; k <= 3; k++) {
            c.due("knows", x.knows(2), 1);
            c.due("reads", x.reads(2), 1);
            c.due("knows", x.knows(0), 1);
            c.due("first", x.first(1), 3);
            c.due("goes well by a note she has yet to write", x.live(), k < 3 ? 1 : -3);
        }
    }

    private static void imagesOfEverySize() {
        for (int n = 1; n <= 7; n++) {
            for (State state : new State[] {State.bare(n), State.some(n), State.full(n)}) {
                ShuffledDays x = state.make();
                long digest = x.digest();
                c.due("kept", x.image(0), 1);
                x.life(8 - n);
                x.note(7 - n, 0);
                x.other(State.ORDERS_OF[8 - n] - 1);
                c.due("gone on", x.from(0), 1);
                c.due("digest of " + state.name, x.digest(), digest);
                c.alike("image of " + state.name, State.asksOf(x), State.asksOf(state.make()));
            }
        }
    }

    private static void imageIsKeptOverAnother() {
        ShuffledDays x = State.full(5).make();
        x.life(2);
        c.due("kept over a full one", x.image(0), 1);
        c.due("kept over a full one", x.image(1), 1);
        x.life(3);
        for (int i = 0; i < 2; i++) {
            c.due("gone on", x.from(i), 1);
            c.alike("image " + i, State.asksOf(x), State.asksOf(Checks.life(2)));
        }
        x.life(6);
        x.image(1);
        x.from(0);
        c.due("one of them is the old one", x.count(0), 2);
        x.from(1);
        c.due("the other the new one", x.count(0), 6);
        x.from(1);
        c.due("as often as asked", x.count(0), 6);
    }

    /** "all but them, THE TEXT, THE FRACTION and STATUS". */
    private static void imageKeepsAllButThese() {
        ShuffledDays x = Checks.life(3);
        Checks.type(x, "life 1;");
        x.mean();
        x.life(0);
        x.undo();
        x.image(0);
        x.clear();
        Checks.type(x, "at");
        x.promise(0, 0, 1);
        x.image(1);
        x.undo();
        for (int i = 0; i < 4; i++) {
            x.told(0);
        }
        x.from(0);
        c.due("the text is typed on", x.count(5), 2);
        c.due("the text is typed on", x.type(97), 3);
        c.due("above", x.part(0), 1);
        c.due("below", x.part(1), 2);
        c.due("bad", x.status(0), 1);
        c.due("no", x.status(1), 2);
        c.due("full", x.status(2), 1);
        c.due("no orders told", x.count(4), 0);
        c.due("the other image is kept", x.from(1), 1);
    }

    /** What is told behind it changes no image, and what is kept in one is not in the other. */
    private static void imageIsNoOneElses() {
        ShuffledDays x = State.some(4).make();
        x.image(0);
        long digest = x.digest();
        x.day(0, 3);
        x.fact(1, 0, 3, true);
        x.fact(1, 1, 3, true);
        x.note(2, 2);
        x.ahead(1, 2);
        x.at(0, 1);
        x.diary(0, 5);
        x.diary(3, 5);
        x.told(7);
        x.image(1);
        long other = x.digest();
        x.tear(0);
        x.tear(1);
        x.tear(2);
        x.tear(3);
        x.from(0);
        c.due("image 0", x.digest(), digest);
        x.from(1);
        c.due("image 1", x.digest(), other);
        x.note(3, 3);
        x.from(0);
        c.due("image 0 again", x.digest(), digest);
        c.due("other objects have none of it", new ShuffledDays().from(0), -3);
    }

    /** Only mean and promise that are answered make it another. */
    private static void fractionStays() {
        ShuffledDays x = Checks.life(3);
        x.promise(0, 0, 1);
        x.image(0);
        x.life(2);
        x.order(1);
        x.from(0);
        x.hang(-1);
        x.game(0);
        Checks.readAnew(x, "life 5;");
        x.at(0, 0);
        x.at(1, 0);
        c.due("mean refused", x.mean(), -3);
        c.due("promise refused", x.promise(0, 1, 1), -2);
        c.due("above", x.part(0), 1);
        c.due("below", x.part(1), 2);
        x.tear(0);
        x.clear();
        x.at(0, -1);
        c.due("mean", x.mean(), 1);
        c.due("above", x.part(0), 5);
        c.due("below", x.part(1), 1);
    }

    private static void countOfEachRow() {
        for (int n = 1; n <= 7; n++) {
            ShuffledDays bare = Checks.life(n);
            ShuffledDays full = State.full(n).make();
            int[] most = {n, 6, n > 1 ? 6 : 0, n, 3, 150, State.ORDERS_OF[n] - 1};
            for (int what = 0; what <= 6; what++) {
                c.due("count(" + what + ") of none", bare.count(what), what == 0 ? n : 0);
                c.due("count(" + what + ") of all", full.count(what), most[what]);
            }
        }
    }

    private static long folded(long h, long... values) {
        for (long v : values) {
            h = 31 * h + v;
        }
        return h;
    }

    /** The digest of State.full, with one row torn out (none: NONE), which is then without its numbers. */
    private static long fullDigest(int n, int torn, ShuffledDays x) {
        int last = State.ORDERS_OF[n] - 1;
        int notes = torn == 0 ? 0 : 6;
        int pairs = torn == 1 || n == 1 ? 0 : 6;
        int told = torn == 3 ? 0 : 3;
        long h = folded(827, n, notes, pairs, torn == 2 ? 0 : n, told, 150, last);
        for (int d = 0; d < n; d++) {
            h = folded(h, d % 6, 1 << (d + 1) % 6, 1 << d % 6, d);
        }
        for (int i = 0; i < notes; i++) {
            h = folded(h, i % n, i);
        }
        for (int i = 0; i < pairs; i++) {
            h = folded(h, 0, n - 1);
        }
        for (int k = 0; k < n; k++) {
            h = folded(h, torn == 2 ? -1 : 63);
        }
        for (int i = 0; i < told; i++) {
            h = folded(h, last);
        }
        return folded(h, State.ORDERS_OF[n] / 2, torn == 0 ? 0 : n, x.part(0), x.part(1));
    }

    /** More numbers than 64 bits hold: it wraps around. */
    private static void digestOfAFullLife() {
        for (int n = 1; n <= 7; n++) {
            ShuffledDays x = State.full(n).make();
            c.due("digest of " + n + " full days", x.digest(), fullDigest(n, -1, x));
        }
    }

    /** Promise 8: "No NOTES (0), pairs (1), DIARY (2), ORDERS told (3)": that row, and no other. */
    private static void tornRowIsGoneAlone() {
        for (int n = 1; n <= 7; n++) {
            int[] most = {6, n > 1 ? 6 : 0, n, 3};
            for (int what = 0; what < 4; what++) {
                ShuffledDays x = State.full(n).make();
                c.due("tear(" + what + ") of a full row", x.tear(what), most[what]);
                c.due("digest of " + n + " days without row " + what, x.digest(), fullDigest(n, what, x));
                c.due("tear(" + what + ") of an empty row", x.tear(what), 0);
                c.due("nothing else", x.digest(), fullDigest(n, what, x));
                ShuffledDays y = State.bare(n).make();
                c.due("tear(" + what + ") of a bare life", y.tear(what), 0);
                c.due("nothing at all", y.digest(), Checks.life(n).digest());
            }
        }
    }

    private static void digestOfABareLife() {
        for (int n = 1; n <= 7; n++) {
            long h = folded(827, n, 0, 0, 0, 0, 0, 0);
            for (int d = 0; d < n; d++) {
                h = folded(h, 0, 0, 0, -1);
            }
            for (int k = 0; k < n; k++) {
                h = folded(h, -1);
            }
            c.due("digest of " + n + " bare days", Checks.life(n).digest(), folded(h, 0, 0, 0, 1));
        }
    }

    /** What is told and told no more leaves no trace in it; what STATUS counts is not in it. */
    private static void digestOfEachNumber() {
        ShuffledDays x = Checks.life(3);
        long bare = x.digest();
        x.day(2, 5);
        x.fact(2, 0, 5, true);
        x.fact(2, 1, 5, true);
        x.note(2, 5);
        x.ahead(2, 1);
        x.at(2, 2);
        x.diary(2, 63);
        x.told(5);
        x.other(5);
        x.order(5);
        x.type(127);
        x.live();
        c.due("told", x.digest(), folded(827, 3, 1, 1, 1, 1, 1, 5, 0, 0, 0, -1, 0, 0, 0, -1, 5, 32, 32, 2,
            2, 5, 2, 1, -1, -1, 63, 5, 5, 1, 0, 1));
        x.day(2, 0);
        x.fact(2, 0, 5, false);
        x.fact(2, 1, 5, false);
        x.tear(0);
        x.tear(1);
        x.at(2, -1);
        x.diary(2, -1);
        x.tear(3);
        x.other(0);
        x.order(0);
        x.clear();
        c.due("told no more", x.digest(), bare);
        x.image(0);
        x.image(1);
        x.undo();
        x.life(9);
        x.hang(-1);
        c.due("neither images nor status", x.digest(), bare);
    }

    /** "An object is used for at most 512 calls": the dearest ones, in the fullest life, answer the last as the first. */
    private static void fiveHundredAndTwelveCalls() {
        ShuffledDays x = new ShuffledDays();
        c.due("life", x.life(7), 4);
        for (int i = 0; i < 6; i++) {
            x.note(6, i);
            x.fact(i, 1, i, true);
        }
        x.fact(0, 0, 5, true);
        x.told(1);
        x.told(2);
        x.told(3);
        for (int i = 16; i < 512; i += 4) {
            c.due("hang", x.hang(-1), 2520);
            c.due("notes", x.notes(0), -1);
            c.due("mean", x.mean(), 1);
            c.due("torn", x.torn(0), 5040);
        }
        ShuffledDays y = Checks.life(7);
        for (int i = 1; i < 512; i++) {
            c.due("the last", y.hang(5039), 5039);
        }
    }
}
