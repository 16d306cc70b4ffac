/**
 * Runs of drawn calls, up to the 512th of an object, each answer held against the naive program's; the draws are the
 * same each time.
 */
public final class AgainstNaiveTest {
    private static final Checks c = new Checks("AgainstNaiveTest");
    private static final int CALLS = 512;
    /** A digest, three of STATUS, and one that a draw may take more. */
    private static final int LAST_CALLS = 5;
    private static final int TEXT_CALLS = 330;
    private static final int[] ORDERS_OF = {1, 1, 2, 6, 24, 120, 720, 5040};
    private static final String[] WORDS = {"life", "day", "needs", "teaches", "note", "ahead", "at"};

    private long seed;
    private ShuffledDays x;
    private NaiveDays y;
    private int run;
    private int calls;

    public static void main(String[] args) {
        AgainstNaiveTest t = new AgainstNaiveTest();
        for (int run = 0; run < 1500; run++) {
            t.oneRun(run, run % 20 == 0 ? 7 : 1 + run % 5);
        }
        for (int run = 0; run < 4000; run++) {
            t.oneText(run);
        }
        c.end();
    }

    /** Texts alone: what the long runs have too little room for. */
    private void oneText(int number) {
        run = number;
        seed = 991L * number + 7;
        x = new ShuffledDays();
        y = new NaiveDays();
        calls = 0;
        readText(1 + draw(7));
        due("digest behind the text", x.digest(), y.digest());
    }

    private int draw(int below) {
        seed = seed * 6364136223846793005L + 1442695040888963407L;
        return (int) ((seed >>> 33) % below);
    }

    /** Mostly 0 to below - 1, now and then at an edge or far out. */
    private int near(int below) {
        int way = draw(40);
        if (way == 0) {
            return -1;
        }
        if (way == 1) {
            return below;
        }
        if (way == 2) {
            return new int[] {Integer.MIN_VALUE, Integer.MAX_VALUE, -2, 1000000, below + 1, 255}[draw(6)];
        }
        return draw(below);
    }

    private void oneRun(int number, int days) {
        run = number;
        seed = 77777L * number + 13;
        x = new ShuffledDays();
        y = new NaiveDays();
        calls = 0;
        life(days);
        while (calls < CALLS - LAST_CALLS) {
            if (draw(4) == 0) {
                ask();
            } else {
                tell();
            }
            if (draw(8) == 0) {
                due("digest", x.digest(), y.digest());
            }
        }
        lastCalls();
    }

    private void lastCalls() {
        for (int i = 0; i < 3; i++) {
            due("status", x.status(i), y.status(i));
        }
        while (calls < CALLS) {
            due("digest at last", x.digest(), y.digest());
        }
        c.due("calls of run " + run, calls, CALLS);
    }

    private void due(String what, long got, long want) {
        calls++;
        c.due("run " + run + " call " + calls + " " + what, got, want);
    }

    private void life(int n) {
        due("life " + n, x.life(n), y.life(n));
    }

    private void tell() {
        int n = y.count(0);
        int a = near(n);
        int b = near(n);
        int f = near(6);
        int what = near(2);
        boolean is = draw(4) != 0;
        int rank = near(ORDERS_OF[n]);
        switch (draw(40)) {
            case 0, 1, 2 -> {
                int kind = near(6);
                due("day", x.day(a, kind), y.day(a, kind));
            }
            case 3, 4, 5, 6, 7, 8, 9, 10, 11 -> due("fact", x.fact(a, what, f, is), y.fact(a, what, f, is));
            case 12, 13, 14, 15 -> due("note", x.note(a, f), y.note(a, f));
            case 16 -> due("ahead", x.ahead(a, b), y.ahead(a, b));
            case 17 -> {
                int k = draw(3) == 0 ? b : -1;
                due("at", x.at(a, k), y.at(a, k));
            }
            case 18 -> {
                int t = near(4);
                due("tear", x.tear(t), y.tear(t));
            }
            case 19, 20, 21 -> due("order", x.order(rank), y.order(rank));
            case 22 -> due("told", x.told(rank), y.told(rank));
            case 23, 24 -> due("other", x.other(rank), y.other(rank));
            case 25, 26, 27 -> {
                int set = draw(3) == 0 ? -1 : draw(4) == 0 ? near(64) : y.knows(draw(n));
                due("diary", x.diary(a, set), y.diary(a, set));
            }
            case 28, 29, 30, 31, 32 -> due("live", x.live(), y.live());
            case 33 -> due("undo", x.undo(), y.undo());
            case 34 -> due("image", x.image(what), y.image(what));
            case 35 -> due("from", x.from(what), y.from(what));
            case 36 -> {
                if (draw(6) == 0) {
                    life(draw(6) == 0 ? near(8) : n);
                }
            }
            default -> {
                if (draw(3) == 0 && calls + TEXT_CALLS < CALLS - LAST_CALLS) {
                    readText(n);
                }
            }
        }
    }

    private void readText(int n) {
        if (draw(3) != 0) {
            due("clear", x.clear(), y.clear());
        }
        String text = drawnText(n);
        for (int i = 0; i < text.length(); i++) {
            char sign = text.charAt(i);
            int spoil = draw(120);
            if (spoil == 0) {
                continue;
            }
            if (spoil == 1) {
                int other = near(128);
                due("type", x.type(other), y.type(other));
            }
            due("type", x.type(sign), y.type(sign));
        }
        due("read '" + text + "'", x.read(), y.read());
    }

    private String drawnText(int n) {
        StringBuilder s = new StringBuilder();
        int items = draw(5) == 0 ? 12 : draw(5);
        s.append("life ").append(draw(15) == 0 ? draw(10) : n).append(';');
        for (int i = 0; i < items; i++) {
            blanks(s);
            String word = WORDS[draw(30) == 0 ? 0 : 1 + draw(6)];
            s.append(word);
            blanks(s);
            s.append(draw(60) == 0 ? draw(12) : draw(n));
            s.append(draw(60) == 0 ? "" : " ");
            s.append(draw(60) == 0 ? draw(12) : draw(word.equals("day") || word.length() == 5 || word.equals("teaches") ? 6 : n));
            s.append(draw(60) == 0 ? ' ' : ';');
        }
        return s.toString();
    }

    private void blanks(StringBuilder s) {
        for (int i = draw(3); i > 0; i--) {
            s.append(' ');
        }
    }

    private void ask() {
        int n = y.count(0);
        int d = near(n);
        int what = near(2);
        int f = near(6);
        switch (draw(24)) {
            case 0 -> due("lived", x.lived(d), y.lived(d));
            case 1 -> due("knows", x.knows(d), y.knows(d));
            case 2 -> due("reads", x.reads(d), y.reads(d));
            case 3 -> due("missing", x.missing(d), y.missing(d));
            case 4 -> due("first", x.first(what), y.first(what));
            case 5, 6 -> due("cards", x.cards(d), y.cards(d));
            case 7 -> {
                int i = near(draw(2) == 0 ? 6 : ORDERS_OF[n]);
                due("hang", x.hang(i), y.hang(i));
            }
            case 8 -> due("must", x.must(d), y.must(d));
            case 9 -> {
                if (n < 6) {
                    int which = near(3);
                    due("notes", x.notes(which), y.notes(which));
                }
            }
            case 10 -> due("mean", x.mean(), y.mean());
            case 11 -> due("best", x.best(), y.best());
            case 12 -> {
                int set = draw(5) == 0 ? near(64) : y.knows(draw(n));
                due("when", x.when(d, set), y.when(d, set));
            }
            case 13 -> due("torn", x.torn(what), y.torn(what));
            case 14 -> {
                int b = near(n);
                due("promise", x.promise(f, d, b), y.promise(f, d, b));
            }
            case 15 -> due("two", x.two(d), y.two(d));
            case 16 -> due("settle", x.settle(f, what), y.settle(f, what));
            case 17, 18 -> due("game", x.game(what), y.game(what));
            case 19 -> {
                int which = near(3);
                due("sofar", x.sofar(which), y.sofar(which));
            }
            case 20 -> due("part", x.part(what), y.part(what));
            case 21 -> {
                int which = near(3);
                due("status", x.status(which), y.status(which));
            }
            case 22 -> {
                int which = near(7);
                due("count", x.count(which), y.count(which));
            }
            default -> due("first", x.first(1), y.first(1));
        }
    }
}
