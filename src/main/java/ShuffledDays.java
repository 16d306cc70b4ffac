/**
 * Days that are lived in another order than their dates: what she knows on each of them, by what was
 * learnt on days lived ahead of it and by notes that lie from their date on.
 *
 * Every row is made with the object and used again; no call makes an object.
 */
public final class ShuffledDays {
    public static final int NONE = -1, BAD = -2, NO = -3, FULL = -4;

    private static final int BAD_TEN = -10, BAD_HUNDRED = -100, NOT_SO_MANY = -5;
    private static final int ITEM_REFUSED = -1000, TEXT_FAULT = -10;

    private static final int MOST_DAYS = 7, DAYS_AT_FIRST = 4, KINDS = 6, FACTS = 6, ALL_FACTS = 63;
    private static final int MOST_NOTES = 6, MOST_PAIRS = 6, MOST_TOLD = 3, IMAGES = 2;
    private static final int MOST_BYTES = 150, MOST_ITEMS = 30, MOST_MORE_NOTES = 2;

    /** How many orders so many days have. */
    private static final int[] ORDERS_OF = {1, 1, 2, 6, 24, 120, 720, 5040};

    private final PlainDay[] kinds = new PlainDay[KINDS];
    private final Life now = new Life();
    private final Life spare = new Life();
    private final Life[] images = new Life[IMAGES];
    private final boolean[] kept = new boolean[IMAGES];
    private final Text text = new Text();
    private final Course course = new Course();
    private final NoteSearch search = new NoteSearch();
    private final int[] shared = new int[MOST_DAYS];
    private final int[] leads = new int[1 << MOST_DAYS];
    private final int[] refusals = new int[3];
    private long above = 0;
    private long below = 1;

    public ShuffledDays() {
        kinds[0] = new PlainDay();
        kinds[1] = new ChildDay();
        kinds[2] = new IllDay();
        kinds[3] = new BusyDay();
        kinds[4] = new SchoolDay();
        kinds[5] = new DreamDay();
        for (int i = 0; i < IMAGES; i++) {
            images[i] = new Life();
        }
    }

    // ---- a life

    public int life(int n) {
        return counted(now.tellDays(n));
    }

    public int day(int d, int kind) {
        return counted(now.tellKind(d, kind));
    }

    public int fact(int d, int what, int f, boolean is) {
        return counted(now.tellFact(d, what, f, is));
    }

    public int note(int d, int f) {
        return counted(now.tellNote(d, f));
    }

    public int ahead(int a, int b) {
        return counted(now.tellPair(a, b));
    }

    public int at(int d, int k) {
        int was = now.tellPlace(d, k);
        return was == BAD ? badAs(BAD_TEN) : was;
    }

    public int tear(int what) {
        return counted(now.tearOut(what));
    }

    public int order(int rank) {
        return counted(now.tellOrder(rank));
    }

    public int type(int c) {
        return counted(text.take(c));
    }

    public int clear() {
        int had = text.length;
        text.length = 0;
        return had;
    }

    public int read() {
        int fault = text.findFault();
        if (fault != NONE) {
            return TEXT_FAULT - fault;
        }
        spare.copyFrom(now);
        for (int i = 0; i < text.items; i++) {
            if (now.tellItem(text.item[i]) < NONE) {
                now.copyFrom(spare);
                return ITEM_REFUSED - i;
            }
        }
        return text.items;
    }

    // ---- what she knows

    public int lived(int k) {
        if (!now.hasDay(k)) {
            return counted(BAD);
        }
        follow(now.rank);
        return course.order[k];
    }

    public int knows(int d) {
        if (!now.hasDay(d)) {
            return counted(BAD);
        }
        follow(now.rank);
        return course.known[d];
    }

    public int reads(int d) {
        if (!now.hasDay(d)) {
            return counted(BAD);
        }
        follow(now.rank);
        return course.found[d];
    }

    public int missing(int d) {
        if (!now.hasDay(d)) {
            return counted(BAD);
        }
        follow(now.rank);
        return course.lacking(d);
    }

    public int first(int what) {
        if (what < 0 || what > 1) {
            return counted(BAD);
        }
        follow(now.rank);
        return what == 0 ? course.firstFailing() : course.wellAmong(now.days);
    }

    public int cards(int d) {
        if (!now.hasDay(d)) {
            return counted(BAD);
        }
        follow(now.rank);
        int earlier = 0;
        for (int e = 0; e < d; e++) {
            earlier |= course.known[e];
        }
        return earlier & ~course.known[d];
    }

    // ---- orders

    public int hang(int i) {
        if (i < NONE) {
            return badAs(BAD_TEN);
        }
        int hanging = 0;
        follow(0);
        for (int rank = 0; rank < now.orders(); rank++) {
            if (hangsTogether()) {
                if (hanging == i) {
                    return rank;
                }
                hanging++;
            }
            course.goOn();
        }
        return i == NONE ? hanging : NOT_SO_MANY;
    }

    public int must(int d) {
        if (!now.hasDay(d)) {
            return counted(BAD);
        }
        int always = NONE;
        follow(0);
        for (int rank = 0; rank < now.orders(); rank++) {
            if (hangsTogether()) {
                int here = course.daysAheadOf(d);
                always = always == NONE ? here : always & here;
            }
            course.goOn();
        }
        return always == NONE ? counted(NO) : always;
    }

    public int told(int rank) {
        return counted(now.tellForNotes(rank));
    }

    public int notes(int what) {
        if (what < 0 || what > MOST_MORE_NOTES) {
            return badAs(BAD_TEN);
        }
        follow(now.rank);
        search.find(now, course);
        if (what == 0) {
            return search.fewest;
        }
        return what == 1 ? search.lesser : search.greater;
    }

    public int mean() {
        long well = 0;
        long orders = 0;
        follow(0);
        for (int rank = 0; rank < now.orders(); rank++) {
            if (livesAsTold()) {
                well += course.wellAmong(now.days);
                orders++;
            }
            course.goOn();
        }
        if (orders == 0) {
            return counted(NO);
        }
        setFraction(well, orders);
        return 1;
    }

    public int best() {
        int most = NONE;
        int bestRank = NO;
        follow(0);
        for (int rank = 0; rank < now.orders(); rank++) {
            int well = livesAsTold() ? course.wellAmong(now.days) : NONE;
            if (well > most) {
                most = well;
                bestRank = rank;
            }
            course.goOn();
        }
        return counted(bestRank);
    }

    public int when(int d, int set) {
        if (!now.hasDay(d) || set < 0 || set > ALL_FACTS) {
            return counted(BAD);
        }
        int places = 0;
        follow(0);
        for (int rank = 0; rank < now.orders(); rank++) {
            if (livesAsTold() && course.known[d] == set) {
                places |= 1 << course.place[d];
            }
            course.goOn();
        }
        return places;
    }

    public int diary(int k, int set) {
        int was = now.tellDiary(k, set);
        return was == BAD ? badAs(BAD_TEN) : was;
    }

    public int torn(int what) {
        if (what < 0 || what > 1) {
            return badAs(BAD_TEN);
        }
        int orders = 0;
        int firstRank = NONE;
        follow(0);
        for (int rank = 0; rank < now.orders(); rank++) {
            if (livesAsTold() && course.fitsDiary(now.diary)) {
                if (orders == 0) {
                    firstRank = rank;
                }
                orders++;
            }
            course.goOn();
        }
        return what == 0 ? orders : firstRank;
    }

    public int promise(int f, int a, int b) {
        if (!isFact(f) || !now.hasDay(a) || !now.hasDay(b) || a == b) {
            return counted(BAD);
        }
        follow(0);
        course.teachToo(now, kinds, a, 1 << f);
        int orders = 0;
        for (int rank = 0; rank < now.orders(); rank++) {
            course.liveThrough();
            orders += course.known[b] >> f & 1;
            course.goOn();
        }
        setFraction(orders, now.orders());
        return 1;
    }

    // ---- two

    public int other(int rank) {
        return counted(now.tellOther(rank));
    }

    public int two(int d) {
        if (!now.hasDay(d)) {
            return counted(BAD);
        }
        shareKnown();
        return shared[d];
    }

    public int settle(int f, int what) {
        if (!isFact(f) || what < 0 || what > 1) {
            return badAs(BAD_TEN);
        }
        shareKnown();
        int days = 0;
        int firstDate = NONE;
        for (int d = now.days - 1; d >= 0; d--) {
            if ((shared[d] >> f & 1) != 0) {
                days++;
                firstDate = d;
            }
        }
        return what == 0 ? days : firstDate;
    }

    public int game(int what) {
        if (what < 0 || what > 1) {
            return badAs(BAD_HUNDRED);
        }
        int firstNamed = NONE;
        int all = (1 << now.days) - 1;
        leads[all] = 0;
        for (int named = all - 1; named >= 0; named--) {
            firstNamed = bestNaming(named);
            leads[named] = leadByNaming(named, firstNamed);
        }
        return what == 0 ? leads[0] : firstNamed;
    }

    // ---- living

    public int live() {
        if (now.lived >= now.days) {
            return counted(NO);
        }
        follow(now.rank);
        int d = course.order[now.lived];
        now.lived++;
        return course.lacking(d) == 0 ? 1 : 0;
    }

    public int undo() {
        if (now.lived <= 0) {
            return counted(NO);
        }
        now.lived--;
        return now.lived;
    }

    public int sofar(int what) {
        if (what < 0 || what > 2) {
            return counted(BAD);
        }
        if (what == 0) {
            return now.lived;
        }
        follow(now.rank);
        return what == 1 ? course.wellAmong(now.lived) : course.learntAmong(now.lived);
    }

    // ---- what there is

    public long part(int what) {
        if (what < 0 || what > 1) {
            return counted(BAD);
        }
        return what == 0 ? above : below;
    }

    public int image(int i) {
        if (i < 0 || i >= IMAGES) {
            return counted(BAD);
        }
        images[i].copyFrom(now);
        kept[i] = true;
        return 1;
    }

    public int from(int i) {
        if (i < 0 || i >= IMAGES) {
            return counted(BAD);
        }
        if (!kept[i]) {
            return counted(NO);
        }
        now.copyFrom(images[i]);
        return 1;
    }

    public int status(int what) {
        if (what < 0 || what >= refusals.length) {
            return badAs(NONE);
        }
        return refusals[what];
    }

    public int count(int what) {
        return counted(countOf(what));
    }

    public long digest() {
        long h = 827;
        for (int what = 0; what <= 6; what++) {
            h = 31 * h + countOf(what);
        }
        h = now.digestOfDays(h);
        h = now.digestOfRows(h);
        h = 31 * h + above;
        return 31 * h + below;
    }

    // ---- helpers

    /** An answer that tells a refusal is one: STATUS counts it, whatever the call. */
    private int counted(int answer) {
        if (answer <= BAD && answer >= FULL) {
            refusals[BAD - answer]++;
        }
        return answer;
    }

    private int badAs(int answer) {
        refusals[0]++;
        return answer;
    }

    private int countOf(int what) {
        return what == 5 ? text.length : now.countOfRow(what);
    }

    private static boolean isFact(int f) {
        return f >= 0 && f < FACTS;
    }

    /** Days are looked at anew each time: any of the calls between may have told otherwise. */
    private void follow(int rank) {
        course.lookAt(now, kinds);
        course.goTo(rank);
        course.liveThrough();
    }

    private boolean livesAsTold() {
        if (!course.keepsTold(now)) {
            return false;
        }
        course.liveThrough();
        return true;
    }

    private boolean hangsTogether() {
        return livesAsTold() && course.wellAmong(now.days) == now.days;
    }

    private void shareKnown() {
        follow(now.rank);
        System.arraycopy(course.known, 0, shared, 0, MOST_DAYS);
        follow(now.otherRank);
        for (int d = 0; d < now.days; d++) {
            shared[d] &= course.known[d];
        }
    }

    /** Who is to name gains what is new and then stands where the one after starts: the lead turns round. */
    private int leadByNaming(int named, int d) {
        int gained = now.teaches[d] & ~now.taughtBy(named);
        return Integer.bitCount(gained) - leads[named | 1 << d];
    }

    /** The least of the best days to name; some day is unnamed, as the caller leaves the full set out. */
    private int bestNaming(int named) {
        int best = 0;
        int most = -MOST_DAYS * FACTS;
        for (int d = 0; d < now.days; d++) {
            if ((named >> d & 1) == 0) {
                int lead = leadByNaming(named, d);
                if (lead > most) {
                    most = lead;
                    best = d;
                }
            }
        }
        return best;
    }

    private void setFraction(long up, long down) {
        long divisor = commonDivisor(up, down);
        if (divisor > 0) {
            above = up / divisor;
            below = down / divisor;
        }
    }

    /** Numbers here stay under 40000, for which Euclid needs far fewer steps than the bound. */
    private static long commonDivisor(long a, long b) {
        long x = a;
        long y = b;
        for (int i = 0; i < 100 && y != 0; i++) {
            long rest = x % y;
            x = y;
            y = rest;
        }
        return x;
    }

    /** Kind 0: what a day is if nothing else is said; a kind under it says only what is otherwise. */
    private static class PlainDay {
        boolean canRead() {
            return true;
        }

        boolean canWrite() {
            return true;
        }

        int learntOf(int needs, int teaches) {
            return teaches;
        }

        int neededOf(int needs) {
            return needs;
        }
    }

    private static class ChildDay extends PlainDay {
        boolean canRead() {
            return false;
        }
    }

    private static class IllDay extends PlainDay {
        int learntOf(int needs, int teaches) {
            return 0;
        }
    }

    private static final class BusyDay extends PlainDay {
        boolean canWrite() {
            return false;
        }
    }

    private static final class SchoolDay extends ChildDay {
        int learntOf(int needs, int teaches) {
            return teaches | needs;
        }
    }

    private static final class DreamDay extends IllDay {
        boolean canWrite() {
            return false;
        }

        int neededOf(int needs) {
            return 0;
        }
    }

    /** All that is told, and how far it is lived: just what an image keeps. */
    private static final class Life {
        int days;
        int notes;
        int pairs;
        int toldOrders;
        int rank;
        int otherRank;
        int lived;
        final int[] kind = new int[MOST_DAYS];
        final int[] needs = new int[MOST_DAYS];
        final int[] teaches = new int[MOST_DAYS];
        final int[] toldAt = new int[MOST_DAYS];
        final int[] diary = new int[MOST_DAYS];
        final int[] noteDay = new int[MOST_NOTES];
        final int[] noteFact = new int[MOST_NOTES];
        final int[] pairFirst = new int[MOST_PAIRS];
        final int[] pairSecond = new int[MOST_PAIRS];
        final int[] toldRank = new int[MOST_TOLD];

        Life() {
            startAnew(DAYS_AT_FIRST);
        }

        void startAnew(int n) {
            days = n;
            notes = 0;
            pairs = 0;
            toldOrders = 0;
            rank = 0;
            otherRank = 0;
            lived = 0;
            for (int d = 0; d < MOST_DAYS; d++) {
                kind[d] = 0;
                needs[d] = 0;
                teaches[d] = 0;
                toldAt[d] = NONE;
                diary[d] = NONE;
            }
        }

        void copyFrom(Life from) {
            days = from.days;
            notes = from.notes;
            pairs = from.pairs;
            toldOrders = from.toldOrders;
            rank = from.rank;
            otherRank = from.otherRank;
            lived = from.lived;
            System.arraycopy(from.kind, 0, kind, 0, MOST_DAYS);
            System.arraycopy(from.needs, 0, needs, 0, MOST_DAYS);
            System.arraycopy(from.teaches, 0, teaches, 0, MOST_DAYS);
            System.arraycopy(from.toldAt, 0, toldAt, 0, MOST_DAYS);
            System.arraycopy(from.diary, 0, diary, 0, MOST_DAYS);
            System.arraycopy(from.noteDay, 0, noteDay, 0, MOST_NOTES);
            System.arraycopy(from.noteFact, 0, noteFact, 0, MOST_NOTES);
            System.arraycopy(from.pairFirst, 0, pairFirst, 0, MOST_PAIRS);
            System.arraycopy(from.pairSecond, 0, pairSecond, 0, MOST_PAIRS);
            System.arraycopy(from.toldRank, 0, toldRank, 0, MOST_TOLD);
        }

        boolean hasDay(int d) {
            return d >= 0 && d < days;
        }

        int orders() {
            return ORDERS_OF[days];
        }

        boolean hasRank(int r) {
            return r >= 0 && r < orders();
        }

        int tellDays(int n) {
            if (n < 1 || n > MOST_DAYS) {
                return BAD;
            }
            int was = days;
            startAnew(n);
            return was;
        }

        int tellKind(int d, int newKind) {
            if (!hasDay(d) || newKind < 0 || newKind >= KINDS) {
                return BAD;
            }
            int was = kind[d];
            kind[d] = newKind;
            lived = 0;
            return was;
        }

        int tellFact(int d, int what, int f, boolean is) {
            if (!hasDay(d) || what < 0 || what > 1 || !isFact(f)) {
                return BAD;
            }
            int[] sets = what == 0 ? needs : teaches;
            boolean was = (sets[d] >> f & 1) != 0;
            if (was == is) {
                return NO;
            }
            sets[d] ^= 1 << f;
            lived = 0;
            return 1;
        }

        int tellNote(int d, int f) {
            if (!hasDay(d) || !isFact(f)) {
                return BAD;
            }
            if ((notedOn(d) >> f & 1) != 0) {
                return NO;
            }
            if (notes >= MOST_NOTES) {
                return FULL;
            }
            noteDay[notes] = d;
            noteFact[notes] = f;
            lived = 0;
            return notes++;
        }

        int tellPair(int a, int b) {
            if (!hasDay(a) || !hasDay(b) || a == b) {
                return BAD;
            }
            if (pairs >= MOST_PAIRS) {
                return FULL;
            }
            pairFirst[pairs] = a;
            pairSecond[pairs] = b;
            return pairs++;
        }

        int tellPlace(int d, int k) {
            if (!hasDay(d) || k != NONE && !hasDay(k)) {
                return BAD;
            }
            int was = toldAt[d];
            toldAt[d] = k;
            return was;
        }

        int tellDiary(int k, int set) {
            if (!hasDay(k) || set < NONE || set > ALL_FACTS) {
                return BAD;
            }
            int was = diary[k];
            diary[k] = set;
            return was;
        }

        int tellOrder(int newRank) {
            if (!hasRank(newRank)) {
                return BAD;
            }
            int was = rank;
            rank = newRank;
            lived = 0;
            return was;
        }

        int tellOther(int newRank) {
            if (!hasRank(newRank)) {
                return BAD;
            }
            int was = otherRank;
            otherRank = newRank;
            return was;
        }

        int tellForNotes(int newRank) {
            if (!hasRank(newRank)) {
                return BAD;
            }
            if (toldOrders >= MOST_TOLD) {
                return FULL;
            }
            toldRank[toldOrders] = newRank;
            return toldOrders++;
        }

        int tearOut(int what) {
            if (what < 0 || what > 3) {
                return BAD;
            }
            int were = countOfRow(what + 1);
            switch (what) {
                case 0:
                    notes = 0;
                    lived = 0;
                    break;
                case 1:
                    pairs = 0;
                    break;
                case 2:
                    for (int k = 0; k < MOST_DAYS; k++) {
                        diary[k] = NONE;
                    }
                    break;
                default:
                    toldOrders = 0;
                    break;
            }
            return were;
        }

        /** An item of a text: its word's number, then its two figures. */
        int tellItem(int item) {
            int a = item / 10 % 10;
            int b = item % 10;
            switch (item / 100) {
                case Text.LIFE:
                    return tellDays(a);
                case Text.DAY:
                    return tellKind(a, b);
                case Text.NEEDS:
                    return tellFact(a, 0, b, true);
                case Text.TEACHES:
                    return tellFact(a, 1, b, true);
                case Text.NOTE:
                    return tellNote(a, b);
                case Text.AHEAD:
                    return tellPair(a, b);
                case Text.AT:
                    return tellPlace(a, b);
                default:
                    return BAD;
            }
        }

        int notedOn(int d) {
            int facts = 0;
            for (int i = 0; i < notes; i++) {
                if (noteDay[i] == d) {
                    facts |= 1 << noteFact[i];
                }
            }
            return facts;
        }

        int taughtBy(int named) {
            int facts = 0;
            for (int d = 0; d < days; d++) {
                if ((named >> d & 1) != 0) {
                    facts |= teaches[d];
                }
            }
            return facts;
        }

        int countOfRow(int what) {
            switch (what) {
                case 0:
                    return days;
                case 1:
                    return notes;
                case 2:
                    return pairs;
                case 3:
                    return toldInDiary();
                case 4:
                    return toldOrders;
                case 6:
                    return rank;
                default:
                    return BAD;
            }
        }

        int toldInDiary() {
            int told = 0;
            for (int k = 0; k < days; k++) {
                if (diary[k] != NONE) {
                    told++;
                }
            }
            return told;
        }

        long digestOfDays(long start) {
            long h = start;
            for (int d = 0; d < days; d++) {
                h = 31 * h + kind[d];
                h = 31 * h + needs[d];
                h = 31 * h + teaches[d];
                h = 31 * h + toldAt[d];
            }
            return h;
        }

        long digestOfRows(long start) {
            long h = start;
            for (int i = 0; i < notes; i++) {
                h = 31 * h + noteDay[i];
                h = 31 * h + noteFact[i];
            }
            for (int i = 0; i < pairs; i++) {
                h = 31 * h + pairFirst[i];
                h = 31 * h + pairSecond[i];
            }
            for (int k = 0; k < days; k++) {
                h = 31 * h + diary[k];
            }
            for (int i = 0; i < toldOrders; i++) {
                h = 31 * h + toldRank[i];
            }
            h = 31 * h + otherRank;
            return 31 * h + lived;
        }
    }

    /** One order of the days at a time, and what she knows on each date in it. */
    private static final class Course {
        int days;
        final int[] order = new int[MOST_DAYS];
        final int[] place = new int[MOST_DAYS];
        final boolean[] reading = new boolean[MOST_DAYS];
        final boolean[] writing = new boolean[MOST_DAYS];
        final int[] learnt = new int[MOST_DAYS];
        final int[] needed = new int[MOST_DAYS];
        final int[] noted = new int[MOST_DAYS];
        final int[] before = new int[MOST_DAYS];
        final int[] found = new int[MOST_DAYS];
        final int[] known = new int[MOST_DAYS];

        /** Asks the kinds once, as thousands of orders may follow that ask the same. */
        void lookAt(Life life, PlainDay[] kinds) {
            days = life.days;
            for (int d = 0; d < days; d++) {
                PlainDay kind = kindOf(life, kinds, d);
                if (kind != null) {
                    reading[d] = kind.canRead();
                    writing[d] = kind.canWrite();
                    learnt[d] = kind.learntOf(life.needs[d], life.teaches[d]);
                    needed[d] = kind.neededOf(life.needs[d]);
                    noted[d] = life.notedOn(d);
                }
            }
        }

        /** As if day d taught these facts, too, and nothing were told of it. */
        void teachToo(Life life, PlainDay[] kinds, int d, int facts) {
            PlainDay kind = kindOf(life, kinds, d);
            if (kind != null) {
                learnt[d] = kind.learntOf(life.needs[d], life.teaches[d] | facts);
            }
        }

        private static PlainDay kindOf(Life life, PlainDay[] kinds, int d) {
            int kind = life.kind[d];
            return kind >= 0 && kind < kinds.length ? kinds[kind] : null;
        }

        void goTo(int rank) {
            int rest = rank;
            int used = 0;
            for (int k = 0; k < days; k++) {
                int block = ORDERS_OF[days - 1 - k];
                for (int d = 0; d < days; d++) {
                    if ((used >> d & 1) != 0) {
                        continue;
                    }
                    if (rest < block) {
                        order[k] = d;
                        used |= 1 << d;
                        break;
                    }
                    rest -= block;
                }
            }
            placeDays();
        }

        /** To the order of the next rank; the last order stays. */
        void goOn() {
            int i = days - 2;
            while (i >= 0 && order[i] > order[i + 1]) {
                i--;
            }
            if (i < 0) {
                return;
            }
            int j = days - 1;
            while (j > i && order[j] < order[i]) {
                j--;
            }
            swap(i, j);
            int low = i + 1;
            int high = days - 1;
            while (low < high) {
                swap(low, high);
                low++;
                high--;
            }
            placeDays();
        }

        private void swap(int i, int j) {
            int kept = order[i];
            order[i] = order[j];
            order[j] = kept;
        }

        private void placeDays() {
            for (int k = 0; k < days; k++) {
                place[order[k]] = k;
            }
        }

        void liveThrough() {
            int learntSoFar = 0;
            for (int k = 0; k < days; k++) {
                int d = order[k];
                before[d] = learntSoFar;
                learntSoFar |= learnt[d];
            }
            readByDate(before);
        }

        /** By date, not as lived: a note lies from its date on, lived or not. */
        void readByDate(int[] learntBefore) {
            int lying = 0;
            for (int d = 0; d < days; d++) {
                found[d] = reading[d] ? lying : 0;
                known[d] = learntBefore[d] | found[d];
                if (writing[d]) {
                    lying |= noted[d] & known[d];
                }
            }
        }

        int lacking(int d) {
            return needed[d] & ~known[d];
        }

        int firstFailing() {
            for (int k = 0; k < days; k++) {
                if (lacking(order[k]) != 0) {
                    return order[k];
                }
            }
            return NONE;
        }

        /** How many of the first so many days of the order go well. */
        int wellAmong(int lived) {
            int well = 0;
            for (int k = 0; k < lived; k++) {
                if (lacking(order[k]) == 0) {
                    well++;
                }
            }
            return well;
        }

        int learntAmong(int lived) {
            int facts = 0;
            for (int k = 0; k < lived; k++) {
                facts |= learnt[order[k]];
            }
            return facts;
        }

        int daysAheadOf(int d) {
            int set = 0;
            for (int k = 0; k < place[d]; k++) {
                set |= 1 << order[k];
            }
            return set;
        }

        boolean keepsTold(Life life) {
            for (int i = 0; i < life.pairs; i++) {
                if (place[life.pairFirst[i]] > place[life.pairSecond[i]]) {
                    return false;
                }
            }
            for (int d = 0; d < days; d++) {
                if (life.toldAt[d] != NONE && life.toldAt[d] != place[d]) {
                    return false;
                }
            }
            return true;
        }

        boolean fitsDiary(int[] diary) {
            for (int k = 0; k < days; k++) {
                if (diary[k] != NONE && diary[k] != known[order[k]]) {
                    return false;
                }
            }
            return true;
        }
    }

    /** The fewest more notes by which the order as it is and those told go well. */
    private static final class NoteSearch {
        int fewest;
        int lesser;
        int greater;
        private int rows;
        private final int[][] learntBefore = new int[MOST_TOLD + 1][MOST_DAYS];

        /** The course follows the order as it is; when done it stands on another and is to be set anew. */
        void find(Life life, Course course) {
            keepRows(life, course);
            fewest = NONE;
            lesser = NONE;
            greater = NONE;
            if (allWell(course)) {
                fewest = 0;
            } else if (life.notes + 1 <= MOST_NOTES && findOne(course)) {
                fewest = 1;
            } else if (life.notes + 2 <= MOST_NOTES && findTwo(course)) {
                fewest = 2;
            }
        }

        /** What is learnt ahead of a day is the same whatever notes there are: it is found once an order. */
        private void keepRows(Life life, Course course) {
            System.arraycopy(course.before, 0, learntBefore[0], 0, MOST_DAYS);
            for (int i = 0; i < life.toldOrders; i++) {
                course.goTo(life.toldRank[i]);
                course.liveThrough();
                System.arraycopy(course.before, 0, learntBefore[i + 1], 0, MOST_DAYS);
            }
            rows = life.toldOrders + 1;
        }

        private boolean allWell(Course course) {
            for (int i = 0; i < rows; i++) {
                course.readByDate(learntBefore[i]);
                if (course.wellAmong(course.days) < course.days) {
                    return false;
                }
            }
            return true;
        }

        private boolean findOne(Course course) {
            for (int code = 0; code < course.days * FACTS; code++) {
                if (wellWith(course, code, code)) {
                    lesser = named(code);
                    return true;
                }
            }
            return false;
        }

        private boolean findTwo(Course course) {
            for (int low = 0; low < course.days * FACTS; low++) {
                for (int high = low + 1; high < course.days * FACTS; high++) {
                    if (wellWith(course, low, high)) {
                        lesser = named(low);
                        greater = named(high);
                        return true;
                    }
                }
            }
            return false;
        }

        private boolean wellWith(Course course, int low, int high) {
            int lowDay = low / FACTS;
            int highDay = high / FACTS;
            int lowWas = course.noted[lowDay];
            int highWas = course.noted[highDay];
            course.noted[lowDay] |= 1 << low % FACTS;
            course.noted[highDay] |= 1 << high % FACTS;
            boolean well = allWell(course);
            course.noted[highDay] = highWas;
            course.noted[lowDay] = lowWas;
            return well;
        }

        private static int named(int code) {
            return 10 * (code / FACTS) + code % FACTS;
        }
    }

    /** The text of a life, read token by token. */
    private static final class Text {
        static final int LIFE = 0, DAY = 1, NEEDS = 2, TEACHES = 3, NOTE = 4, AHEAD = 5, AT = 6;
        static final int WORDS = 7, FIGURE = 8, STOP = 9, STRANGE = 10, END = 11;

        int length = 0;
        int items = 0;
        final int[] item = new int[MOST_ITEMS];
        private final byte[] bytes = new byte[MOST_BYTES];
        private int next;
        private int start;
        private int token;
        private int figure;

        int take(int c) {
            if (c < 0 || c > 127) {
                return BAD;
            }
            if (length >= MOST_BYTES) {
                return FULL;
            }
            bytes[length] = (byte) c;
            length++;
            return length;
        }

        /** The fault's place; NONE if there is none, and the items stand in their row then. */
        int findFault() {
            next = 0;
            items = 0;
            for (int i = 0; i <= MOST_ITEMS; i++) {
                nextToken();
                if (token == END && items > 0) {
                    return NONE;
                }
                if (!takeItem()) {
                    return start;
                }
            }
            return start;
        }

        /** False if the token at hand can not stand where it does. */
        private boolean takeItem() {
            boolean begins = items == 0;
            if (token >= WORDS || begins != (token == LIFE) || items >= MOST_ITEMS) {
                return false;
            }
            int code = token;
            int figures = begins ? 1 : 2;
            for (int i = 0; i < figures; i++) {
                nextToken();
                if (token != FIGURE) {
                    return false;
                }
                code = 10 * code + figure;
            }
            nextToken();
            if (token != STOP) {
                return false;
            }
            item[items] = begins ? 10 * code : code;
            items++;
            return true;
        }

        private void nextToken() {
            while (next < length && bytes[next] == ' ') {
                next++;
            }
            start = next;
            if (next >= length) {
                token = END;
                return;
            }
            if (isLetter(next)) {
                passLetters();
            } else if (isFigure(next)) {
                passFigures();
            } else {
                token = bytes[next] == ';' ? STOP : STRANGE;
                next++;
            }
        }

        private void passLetters() {
            while (next < length && isLetter(next)) {
                next++;
            }
            token = STRANGE;
            for (int w = 0; w < WORDS; w++) {
                if (spells(word(w))) {
                    token = w;
                }
            }
        }

        /** A number is one figure: with a second one it is a token that can stand nowhere. */
        private void passFigures() {
            figure = bytes[start] - '0';
            while (next < length && isFigure(next)) {
                next++;
            }
            token = next - start == 1 ? FIGURE : STRANGE;
        }

        private boolean isLetter(int i) {
            return bytes[i] >= 'a' && bytes[i] <= 'z';
        }

        private boolean isFigure(int i) {
            return bytes[i] >= '0' && bytes[i] <= '9';
        }

        private boolean spells(String word) {
            if (next - start != word.length()) {
                return false;
            }
            for (int i = 0; i < word.length(); i++) {
                if (bytes[start + i] != word.charAt(i)) {
                    return false;
                }
            }
            return true;
        }

        private static String word(int w) {
            switch (w) {
                case LIFE:
                    return "life";
                case DAY:
                    return "day";
                case NEEDS:
                    return "needs";
                case TEACHES:
                    return "teaches";
                case NOTE:
                    return "note";
                case AHEAD:
                    return "ahead";
                default:
                    return "at";
            }
        }
    }
}
