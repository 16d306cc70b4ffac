/** Section 3 and promises 10 to 12: each token in each place, each byte, each figure, the empty and the longest text. */
public final class TextEdgesTest {
    private static final Checks c = new Checks("TextEdgesTest");
    private static final String[] ITEM_WORDS = {"day", "needs", "teaches", "note", "ahead", "at"};
    /** Tokens of every sort: words, words that are none, figures, numbers of more than one, and the end of an item. */
    private static final String[] TOKENS = {"life", "day", "needs", "teaches", "note", "ahead", "at", "a", "z", "lif",
        "lifes", "da", "days", "need", "needss", "teache", "notes", "not", "ahea", "aheads", "t", "ata", "lifeday",
        "0", "1", "9", "10", "12", "00", "01", "007", "1234567890", "99999999999", ";"};

    public static void main(String[] args) {
        emptyText();
        blanksAlone();
        eachTokenInEachPlace();
        eachByteInEachPlace();
        eachEndTooEarly();
        lifeOnceFirstOfAll();
        wordsOfLettersAlone();
        blanksBetween();
        aSecondFiguresNumber();
        theFirstFaultAheadOfAnyItem();
        faultsInTheLongestText();
        itemsInTheLongestText();
        eachFigureOfLife();
        eachFigureOfEachItem();
        theFirstItemThatIsRefused();
        refusedAsFullInAText();
        faultsChangeNothing();
        refusedItemsChangeNothing();
        toldAnewByTheseAlone();
        readAgain();
        typedBehindWhatWasRead();
        c.end();
    }

    private static int read(String text) {
        ShuffledDays x = new ShuffledDays();
        Checks.type(x, text);
        return x.read();
    }

    private static void fault(String text, int place) {
        c.due("read of '" + text + "'", read(text), -10 - place);
    }

    private static String repeated(String s, int times) {
        return s.repeat(times);
    }

    private static void emptyText() {
        fault("", 0);
        ShuffledDays x = new ShuffledDays();
        Checks.type(x, "life 3;");
        x.clear();
        c.due("emptied", x.read(), -10);
        c.due("and no refusal", x.status(0), 0);
    }

    private static void blanksAlone() {
        for (int length : new int[] {1, 2, 149, 150}) {
            fault(repeated(" ", length), length);
        }
    }

    /** A token may stand here if it is a word that may, a figure alone, or the end of an item. */
    private static boolean mayStand(String token, String wanted) {
        if (wanted.equals("word")) {
            for (String word : ITEM_WORDS) {
                if (word.equals(token)) {
                    return true;
                }
            }
            return false;
        }
        return wanted.equals("figure") ? token.matches("[0-9]") : token.equals(wanted);
    }

    private interface Place {
        void at(String ahead, String wanted);
    }

    private static void eachPlace(Place place) {
        place.at("", "life");
        place.at("life", "figure");
        place.at("life 3", ";");
        place.at("life 3;", "word");
        place.at("life 3;at 0 1;", "word");
        for (String word : ITEM_WORDS) {
            place.at("life 3;" + word, "figure");
            place.at("life 3;" + word + " 0", "figure");
            place.at("life 3;" + word + " 0 1", ";");
        }
    }

    /** "the place of the first byte of the first TOKEN that can not stand there". */
    private static void eachTokenInEachPlace() {
        eachPlace((ahead, wanted) -> {
            for (String token : TOKENS) {
                String text = ahead + " " + token;
                if (!mayStand(token, wanted)) {
                    int place = ahead.length() + 1;
                    fault(text, place);
                    fault(text + " ", place);
                    fault(text + ";", place);
                    fault(text + " life 3;:", place);
                } else if (!token.equals(";")) {
                    fault(text, text.length());
                    fault(text + "  ", text.length() + 2);
                } else {
                    c.due("read of '" + text + "'", read(text) > 0 ? 1 : 0, 1);
                }
            }
        });
    }

    /** "a byte that begins none, too", with a blank ahead of it and without. */
    private static void eachByteInEachPlace() {
        eachPlace((ahead, wanted) -> {
            for (int b = 0; b <= 127; b++) {
                boolean begins = b >= 'a' && b <= 'z' || b >= '0' && b <= '9' || b == ';' || b == ' ';
                if (!begins) {
                    fault(ahead + (char) b, ahead.length());
                    fault(ahead + " " + (char) b + ";", ahead.length() + 1);
                }
            }
        });
    }

    /** "the TEXT's length, if it ends too early": cut behind each of its bytes. */
    private static void eachEndTooEarly() {
        String text = "life 3;at 0 1;day 2 5; ahead 0  1 ;";
        for (int length = 0; length <= text.length(); length++) {
            String cut = text.substring(0, length);
            boolean wordCut = cut.matches(".*(^|[^a-z])(l|li|lif|a|d|da|ah|ahe|ahea)");
            if (cut.trim().endsWith(";")) {
                c.due("read of '" + cut + "'", read(cut), cut.replaceAll("[^;]", "").length());
            } else if (wordCut) {
                fault(cut, cut.replaceAll("[a-z]+$", "").length());
            } else {
                fault(cut, length);
            }
        }
    }

    /** "life again, anything ahead of it". */
    private static void lifeOnceFirstOfAll() {
        for (String token : TOKENS) {
            if (!token.equals("life")) {
                fault(token + " life 3;", 0);
                fault("  " + token + " life 3;", 2);
            }
        }
        fault("life 3;life 3;", 7);
        fault("life 3;at 0 1; life 3;", 15);
        fault("life life 3;", 5);
        fault("life 3 life 3;", 7);
        c.due("life alone", read("life 3;"), 1);
    }

    /** "words of letters a .. z": neither capitals nor signs, and no blank within. */
    private static void wordsOfLettersAlone() {
        fault("Life 3;", 0);
        fault("lIfe 3;", 0);
        fault("LIFE 3;", 0);
        fault("li fe 3;", 0);
        fault("life_3;", 4);
        fault("life 3;At 0 1;", 7);
        fault("life 3;a t 0 1;", 7);
        fault("life 3;at`0 1;", 9);
        fault("life 3;at{0 1;", 9);
        fault("life 3;at/0 1;", 9);
        fault("life 3;at:0 1;", 9);
        fault(repeated("a", 150), 0);
        fault(repeated("life", 37), 0);
    }

    /** "blanks (32) between": as many as there are, where nothing else would keep two tokens apart, and elsewhere. */
    private static void blanksBetween() {
        c.due("none", read("life3;at0 1;day2 5;"), 3);
        c.due("many", read("   life   3   ;   at   0   1   ;   "), 2);
        c.due("one each", read(" life 3 ; at 0 1 ; "), 2);
        fault("life3;at01;", 8);
        fault("life3;at0 1 ;;", 13);
        fault("life 3;\nat 0 1;", 7);
        fault("life 3;at\t0 1;", 9);
        fault("life 3;at 0" + (char) 31 + "1;", 11);
        fault("life 3;at 0!1;", 11);
    }

    /** "figures (1 is a number)": the number that has a second figure can not stand there. */
    private static void aSecondFiguresNumber() {
        fault("life 33;", 5);
        fault("life 00;", 5);
        fault("life33;", 4);
        fault("life 3;at 00 1;", 10);
        fault("life 3;at 0 11;", 12);
        fault("life 3;at 0 " + repeated("1", 138), 12);
        fault("life " + repeated("3", 145), 5);
        fault("life 3 3;", 7);
        fault("life 3;at 0 1 1;", 14);
    }

    /** A fault anywhere is told, whatever ITEM ahead of it would be refused. */
    private static void theFirstFaultAheadOfAnyItem() {
        fault("life 0;:", 7);
        fault("life 9;at 9 9;day", 17);
        fault("life 3;at 3 3;at 0 0", 20);
        fault("life 8;at 0 x;at y 0;", 12);
        fault("life 3;;;", 7);
        fault("x y z", 0);
    }

    private static void faultsInTheLongestText() {
        fault(repeated(" ", 149) + ":", 149);
        fault(repeated(" ", 149) + ";", 149);
        fault("life 3;" + repeated(" ", 142) + ":", 149);
        fault("life 3;" + repeated(" ", 142) + "1", 149);
        fault("life 3;" + repeated(" ", 141) + "at", 150);
        fault("life" + repeated(" ", 146), 150);
        fault("life" + repeated(" ", 145) + "3", 150);
        fault(Checks.LONGEST.substring(0, 149) + " ", 150);
        fault(Checks.LONGEST.substring(0, 149), 149);
        fault(Checks.LONGEST.substring(0, 149) + "0", 148);
    }

    private static void itemsInTheLongestText() {
        c.due("150 bytes", Checks.LONGEST.length(), 150);
        c.due("as many items as it has room for", read(Checks.LONGEST), 25);
        c.due("life at its end", read(repeated(" ", 144) + "life3;"), 1);
        c.due("life and blanks", read("life3;" + repeated(" ", 144)), 1);
        c.due("an item at its end", read("life" + repeated(" ", 136) + "3;day 0 1;"), 2);
        c.due("the last of them refused", read(Checks.LONGEST.substring(0, 144) + "at7 0;"), -1024);
        c.due("the last of them refused", read(Checks.LONGEST.substring(0, 144) + "at0 7;"), -1024);
        c.due("the last but one refused", read(Checks.LONGEST.substring(0, 138) + "at7 0;at0 0;"), -1023);
        c.due("the first of them refused", read("life8;" + Checks.LONGEST.substring(6)), -1000);
    }

    /** "life n": 0 to 9 are figures, 1 to 7 are days. */
    private static void eachFigureOfLife() {
        for (int n = 0; n <= 9; n++) {
            ShuffledDays x = new ShuffledDays();
            Checks.type(x, "life " + n + ";");
            boolean taken = n >= 1 && n <= 7;
            c.due("life " + n, x.read(), taken ? 1 : -1000);
            c.due("days", x.count(0), taken ? n : 4);
            c.due("no refusal", x.status(0), 0);
        }
    }

    private static int tell(ShuffledDays x, String word, int a, int b) {
        switch (word) {
            case "day":
                return x.day(a, b);
            case "needs":
                return x.fact(a, 0, b, true);
            case "teaches":
                return x.fact(a, 1, b, true);
            case "note":
                return x.note(a, b);
            case "ahead":
                return x.ahead(a, b);
            default:
                return x.at(a, b);
        }
    }

    /** "that is refused (as its call is)": told by a text and by calls a life is the same. */
    private static void eachFigureOfEachItem() {
        for (int n = 1; n <= 7; n++) {
            for (String word : ITEM_WORDS) {
                for (int figures = 0; figures < 100; figures++) {
                    oneItem(n, word, figures / 10, figures % 10);
                }
            }
        }
    }

    private static void oneItem(int n, String word, int a, int b) {
        String text = "life " + n + ";" + word + " " + a + " " + b + ";";
        boolean facts = word.equals("needs") || word.equals("teaches") || word.equals("note") || word.equals("day");
        boolean taken = a < n && b < (facts ? 6 : n) && !(word.equals("ahead") && a == b);
        ShuffledDays x = new ShuffledDays();
        ShuffledDays y = new ShuffledDays();
        Checks.type(x, text);
        Checks.type(y, text);
        c.due("read of '" + text + "'", x.read(), taken ? 2 : -1001);
        c.due("no refusal", x.status(0) + x.status(1) + x.status(2), 0);
        if (taken) {
            y.life(n);
            tell(y, word, a, b);
        }
        c.due("'" + text + "' as by calls", x.digest(), y.digest());
    }

    /** "the first ITEM (0 on) that is refused", of two that would be. */
    private static void theFirstItemThatIsRefused() {
        c.due("item 0 and 1", read("life 8;at 9 9;"), -1000);
        c.due("item 1 and 2", read("life 2;at 2 0;at 0 2;"), -1001);
        c.due("item 2 and 3", read("life 2;at 1 0;at 0 2;at 2 0;"), -1002);
        c.due("as BAD, then as NO", read("life 2;ahead 1 1;needs 0 0;needs 0 0;"), -1001);
        c.due("as NO, then as BAD", read("life 2;needs 0 0;needs 0 0;ahead 1 1;"), -1002);
        c.due("needed and taught is not twice", read("life 2;needs 0 0;teaches 0 0;"), 3);
        c.due("a kind and a place may be told again", read("life 2;day 0 1;day 0 1;at 0 0;at 0 0;"), 5);
        c.due("a pair may be told again", read("life 2;ahead 0 1;ahead 0 1;ahead 1 0;"), 4);
    }

    private static void refusedAsFullInAText() {
        String six = "";
        for (int i = 0; i < 6; i++) {
            six += "note " + i + " 5;";
        }
        c.due("six notes", read("life 7;" + six), 7);
        c.due("seven notes", read("life 7;" + six + "note 6 5;"), -1007);
        c.due("one of the six again", read("life 7;" + six + "note 5 5;"), -1007);
        c.due("six pairs", read("life 7;" + repeated("ahead 0 1;", 6)), 7);
        c.due("seven pairs", read("life 7;" + repeated("ahead 0 1;", 7)), -1007);
        // what was told ahead of the text is none of it
        ShuffledDays x = State.full(2).make();
        c.due("six more in a full life", Checks.readAnew(x, "life 2;" + repeated("ahead 1 0;", 6)), 7);
        c.due("six pairs", x.count(2), 6);
    }

    private static State withText(State state, String text) {
        return new State(state.name + " with '" + text + "'", () -> {
            ShuffledDays x = state.make();
            x.clear();
            Checks.type(x, text);
            return x;
        });
    }

    private static void faultsChangeNothing() {
        String[] texts = {"", " ", "life", "life 3", "life 3;x", "life 3;at 0 1;life 3;", "life 12;", ":"};
        int[] places = {0, 1, 4, 6, 7, 14, 5, 0};
        for (int i = 0; i < texts.length; i++) {
            for (State state : new State[] {State.bare(2), State.some(3), State.full(4)}) {
                c.changesNothing(withText(state, texts[i]), "a fault", -10 - places[i], ShuffledDays::read);
            }
        }
    }

    private static void refusedItemsChangeNothing() {
        String[] texts = {"life 0;", "life 9;day 0 1;", "life 5;day 0 5;needs 0 0;teaches 1 1;note 1 1;ahead 0 1;at 0 5;"};
        int[] items = {0, 0, 6};
        for (int i = 0; i < texts.length; i++) {
            for (State state : new State[] {State.bare(2), State.some(3), State.full(4)}) {
                c.changesNothing(withText(state, texts[i]), "an item", -1000 - items[i], ShuffledDays::read);
            }
        }
    }

    /** "is told anew by these alone (the ORDER by dates)": whatever was told ahead of it. */
    private static void toldAnewByTheseAlone() {
        String text = "life 3;day 1 4;needs 1 3;teaches 2 0;note 0 2;ahead 2 1;at 0 2;";
        for (State state : new State[] {State.bare(1), State.some(3), State.full(3), State.full(6)}) {
            ShuffledDays x = withText(state, text).make();
            long above = x.part(0);
            long below = x.part(1);
            int bad = x.status(0);
            c.due("read", x.read(), 7);
            ShuffledDays y = new ShuffledDays();
            y.life(3);
            y.day(1, 4);
            y.fact(1, 0, 3, true);
            y.fact(2, 1, 0, true);
            y.note(0, 2);
            y.ahead(2, 1);
            y.at(0, 2);
            c.alike("told anew behind " + state.name, State.asksOf(x), State.asksOf(y));
            c.due("the text stays", x.count(5), text.length());
            c.due("the fraction stays", x.part(0) * 1000 + x.part(1), above * 1000 + below);
            c.due("status stays", x.status(0), bad);
        }
    }

    private static void readAgain() {
        ShuffledDays x = new ShuffledDays();
        Checks.type(x, "life 2;note 1 5;");
        c.due("read", x.read(), 2);
        x.live();
        long digest = x.digest();
        c.due("read again", x.read(), 2);
        c.due("one note", x.count(1), 1);
        c.due("lived anew", x.sofar(0), 0);
        x.live();
        c.due("as it was", x.digest(), digest);
    }

    private static void typedBehindWhatWasRead() {
        ShuffledDays x = new ShuffledDays();
        Checks.type(x, "life 2;");
        c.due("read", x.read(), 1);
        Checks.type(x, "at 0 1");
        c.due("goes on, and ends too early", x.read(), -10 - 13);
        Checks.type(x, ";");
        c.due("and is ended", x.read(), 2);
        c.due("told", x.at(0, 0), 1);
        x.clear();
        Checks.type(x, "at 0 0;");
        c.due("the next one begins anew", x.read(), -10);
    }
}
