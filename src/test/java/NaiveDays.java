import java.util.ArrayList;
import java.util.Arrays;
import java.util.HashMap;
import java.util.List;
import java.util.Map;
import java.util.TreeSet;
import java.util.function.Predicate;
import java.util.regex.Matcher;
import java.util.regex.Pattern;

/** The document once more, as slowly and as plainly as it reads, to hold the program against. */
final class NaiveDays implements Cloneable {
    static final int NONE = -1, BAD = -2, NO = -3, FULL = -4;
    private static final Map<Integer, List<List<Integer>>> ALL = new HashMap<>();
    private static final int[] UNDER = {-1, 0, 0, 0, 1, 2};

    private int n = 4;
    private int[] kind, needs, teaches, at, diary;
    private List<int[]> notes = new ArrayList<>();
    private List<int[]> pairs = new ArrayList<>();
    private List<Integer> toldOrders = new ArrayList<>();
    private int rank = 0, otherRank = 0, lived = 0;

    private Outside out = new Outside();

    /** What no image keeps. */
    private static final class Outside {
        final NaiveDays[] images = new NaiveDays[2];
        final StringBuilder text = new StringBuilder();
        long above = 0, below = 1;
        final int[] status = new int[3];
    }

    NaiveDays() {
        begin(4);
    }

    private void begin(int days) {
        n = days;
        kind = new int[n];
        needs = new int[n];
        teaches = new int[n];
        at = new int[n];
        diary = new int[n];
        Arrays.fill(at, NONE);
        Arrays.fill(diary, NONE);
        notes = new ArrayList<>();
        pairs = new ArrayList<>();
        toldOrders = new ArrayList<>();
        rank = otherRank = lived = 0;
    }

    private NaiveDays copy() {
        NaiveDays y = new NaiveDays();
        y.take(this);
        return y;
    }

    private void take(NaiveDays y) {
        n = y.n;
        kind = y.kind.clone();
        needs = y.needs.clone();
        teaches = y.teaches.clone();
        at = y.at.clone();
        diary = y.diary.clone();
        notes = new ArrayList<>(y.notes);
        pairs = new ArrayList<>(y.pairs);
        toldOrders = new ArrayList<>(y.toldOrders);
        rank = y.rank;
        otherRank = y.otherRank;
        lived = y.lived;
    }

    private static List<List<Integer>> allOrders(int n) {
        return ALL.computeIfAbsent(n, m -> {
            List<List<Integer>> all = new ArrayList<>();
            extend(new ArrayList<>(), m, all);
            return all;
        });
    }

    private static void extend(List<Integer> begun, int n, List<List<Integer>> all) {
        if (begun.size() == n) {
            all.add(new ArrayList<>(begun));
            return;
        }
        for (int d = 0; d < n; d++) {
            if (!begun.contains(d)) {
                begun.add(d);
                extend(begun, n, all);
                begun.remove(begun.size() - 1);
            }
        }
    }

    private boolean isUnder(int k, int above) {
        return k == above || k > 0 && isUnder(UNDER[k], above);
    }

    private boolean readsOn(int d) {
        return !isUnder(kind[d], 1);
    }

    private boolean writesOn(int d) {
        return kind[d] != 3 && kind[d] != 5;
    }

    private int learntBy(int d) {
        if (isUnder(kind[d], 2)) {
            return 0;
        }
        return kind[d] == 4 ? teaches[d] | needs[d] : teaches[d];
    }

    private int neededBy(int d) {
        return kind[d] == 5 ? 0 : needs[d];
    }

    private int readOn(List<Integer> order, int d) {
        int facts = 0;
        if (readsOn(d)) {
            for (int[] note : notes) {
                if (note[0] < d && writesOn(note[0]) && (knownOn(order, note[0]) >> note[1] & 1) == 1) {
                    facts |= 1 << note[1];
                }
            }
        }
        return facts;
    }

    private int knownOn(List<Integer> order, int d) {
        int facts = readOn(order, d);
        for (int e : order) {
            if (e == d) {
                break;
            }
            facts |= learntBy(e);
        }
        return facts;
    }

    private int missingOn(List<Integer> order, int d) {
        return neededBy(d) & ~knownOn(order, d);
    }

    private int wellIn(List<Integer> order) {
        return (int) order.stream().filter(d -> missingOn(order, d) == 0).count();
    }

    private boolean asTold(List<Integer> order) {
        for (int[] pair : pairs) {
            if (order.indexOf(pair[0]) > order.indexOf(pair[1])) {
                return false;
            }
        }
        for (int d = 0; d < n; d++) {
            if (at[d] != NONE && order.get(at[d]) != d) {
                return false;
            }
        }
        return true;
    }

    private boolean hangs(List<Integer> order) {
        return asTold(order) && wellIn(order) == n;
    }

    private boolean fits(List<Integer> order) {
        for (int k = 0; k < n; k++) {
            if (diary[k] != NONE && knownOn(order, order.get(k)) != diary[k]) {
                return false;
            }
        }
        return asTold(order);
    }

    private List<Integer> ranksWith(Predicate<List<Integer>> wanted) {
        List<Integer> ranks = new ArrayList<>();
        List<List<Integer>> all = allOrders(n);
        for (int r = 0; r < all.size(); r++) {
            if (wanted.test(all.get(r))) {
                ranks.add(r);
            }
        }
        return ranks;
    }

    private List<Integer> orderOf(int r) {
        return allOrders(n).get(r);
    }

    private List<Integer> now() {
        return orderOf(rank);
    }

    private int refuse(int reason, int answer) {
        out.status[BAD - reason]++;
        return answer;
    }

    private int bad() {
        return refuse(BAD, BAD);
    }

    private boolean noDay(int d) {
        return d < 0 || d >= n;
    }

    private boolean noRank(int r) {
        return r < 0 || r >= allOrders(n).size();
    }

    int life(int m) {
        if (m < 1 || m > 7) {
            return bad();
        }
        int was = n;
        begin(m);
        return was;
    }

    int day(int d, int k) {
        if (noDay(d) || k < 0 || k > 5) {
            return bad();
        }
        lived = 0;
        int was = kind[d];
        kind[d] = k;
        return was;
    }

    int fact(int d, int what, int f, boolean is) {
        if (noDay(d) || what < 0 || what > 1 || f < 0 || f > 5) {
            return bad();
        }
        int[] row = what == 0 ? needs : teaches;
        int then = is ? row[d] | 1 << f : row[d] & ~(1 << f);
        if (then == row[d]) {
            return refuse(NO, NO);
        }
        row[d] = then;
        lived = 0;
        return 1;
    }

    int note(int d, int f) {
        if (noDay(d) || f < 0 || f > 5) {
            return bad();
        }
        if (notes.stream().anyMatch(x -> x[0] == d && x[1] == f)) {
            return refuse(NO, NO);
        }
        if (notes.size() == 6) {
            return refuse(FULL, FULL);
        }
        lived = 0;
        notes.add(new int[] {d, f});
        return notes.size() - 1;
    }

    int ahead(int a, int b) {
        if (noDay(a) || noDay(b) || a == b) {
            return bad();
        }
        if (pairs.size() == 6) {
            return refuse(FULL, FULL);
        }
        pairs.add(new int[] {a, b});
        return pairs.size() - 1;
    }

    int at(int d, int k) {
        if (noDay(d) || k < -1 || k >= n) {
            return refuse(BAD, -10);
        }
        int was = at[d];
        at[d] = k;
        return was;
    }

    int tear(int what) {
        if (what < 0 || what > 3) {
            return bad();
        }
        int were = count(what + 1);
        if (what == 0) {
            notes.clear();
            lived = 0;
        } else if (what == 1) {
            pairs.clear();
        } else if (what == 2) {
            Arrays.fill(diary, NONE);
        } else {
            toldOrders.clear();
        }
        return were;
    }

    int order(int r) {
        if (noRank(r)) {
            return bad();
        }
        int was = rank;
        rank = r;
        lived = 0;
        return was;
    }

    int type(int c) {
        if (c < 0 || c > 127) {
            return bad();
        }
        if (out.text.length() == 150) {
            return refuse(FULL, FULL);
        }
        out.text.append((char) c);
        return out.text.length();
    }

    int clear() {
        int had = out.text.length();
        out.text.setLength(0);
        return had;
    }

    /** Tokens are taken apart first, each with its place; an empty one stands for the end. */
    int read() {
        List<String> tokens = new ArrayList<>();
        List<Integer> places = new ArrayList<>();
        Matcher m = Pattern.compile("[a-z]+|[0-9]+|[^ ]", Pattern.DOTALL).matcher(out.text);
        while (m.find()) {
            tokens.add(m.group());
            places.add(m.start());
        }
        tokens.add("");
        places.add(out.text.length());
        List<String[]> items = new ArrayList<>();
        int t = 0;
        while (items.isEmpty() || !tokens.get(t).isEmpty()) {
            String words = items.isEmpty() ? "life" : "day|needs|teaches|note|ahead|at";
            String[] forms = items.isEmpty() ? new String[] {words, "[0-9]", ";"} : new String[] {words, "[0-9]", "[0-9]", ";"};
            for (int i = 0; i < forms.length; i++) {
                if (!tokens.get(t + i).matches(forms[i])) {
                    return -10 - places.get(t + i);
                }
            }
            items.add(tokens.subList(t, t + forms.length).toArray(new String[0]));
            t += forms.length;
        }
        return tellItems(items);
    }

    private int tellItems(List<String[]> items) {
        NaiveDays was = copy();
        int[] status = out.status.clone();
        for (int i = 0; i < items.size(); i++) {
            String[] item = items.get(i);
            int a = Integer.parseInt(item[1]);
            int answer;
            if (i == 0) {
                answer = life(a);
            } else {
                int b = Integer.parseInt(item[2]);
                answer = switch (item[0]) {
                    case "day" -> day(a, b);
                    case "needs" -> fact(a, 0, b, true);
                    case "teaches" -> fact(a, 1, b, true);
                    case "note" -> note(a, b);
                    case "ahead" -> ahead(a, b);
                    default -> at(a, b);
                };
            }
            if (!Arrays.equals(status, out.status)) {
                System.arraycopy(status, 0, out.status, 0, 3);
                take(was);
                return -1000 - i;
            }
        }
        return items.size();
    }

    int lived(int k) {
        return noDay(k) ? bad() : now().get(k);
    }

    int knows(int d) {
        return noDay(d) ? bad() : knownOn(now(), d);
    }

    int reads(int d) {
        return noDay(d) ? bad() : readOn(now(), d);
    }

    int missing(int d) {
        return noDay(d) ? bad() : missingOn(now(), d);
    }

    int first(int what) {
        if (what != 0 && what != 1) {
            return bad();
        }
        return what == 1 ? wellIn(now()) : now().stream().filter(d -> missingOn(now(), d) != 0).findFirst().orElse(NONE);
    }

    int cards(int d) {
        if (noDay(d)) {
            return bad();
        }
        int facts = 0;
        for (int f = 0; f < 6; f++) {
            for (int e = 0; e < d; e++) {
                if ((knownOn(now(), d) >> f & 1) == 0 && (knownOn(now(), e) >> f & 1) == 1) {
                    facts |= 1 << f;
                }
            }
        }
        return facts;
    }

    int hang(int i) {
        if (i < -1) {
            return refuse(BAD, -10);
        }
        List<Integer> ranks = ranksWith(this::hangs);
        return i == -1 ? ranks.size() : i < ranks.size() ? ranks.get(i) : -5;
    }

    int must(int d) {
        if (noDay(d)) {
            return bad();
        }
        List<Integer> ranks = ranksWith(this::hangs);
        if (ranks.isEmpty()) {
            return refuse(NO, NO);
        }
        int days = 0;
        for (int e = 0; e < n; e++) {
            int f = e;
            if (ranks.stream().allMatch(r -> orderOf(r).indexOf(f) < orderOf(r).indexOf(d))) {
                days |= 1 << e;
            }
        }
        return days;
    }

    int told(int r) {
        if (noRank(r)) {
            return bad();
        }
        if (toldOrders.size() == 3) {
            return refuse(FULL, FULL);
        }
        toldOrders.add(r);
        return toldOrders.size() - 1;
    }

    int notes(int what) {
        if (what < 0 || what > 2) {
            return refuse(BAD, -10);
        }
        List<Integer> codes = fewestNotes();
        if (codes == null) {
            return NONE;
        }
        return what == 0 ? codes.size() : what <= codes.size() ? codes.get(what - 1) : NONE;
    }

    private List<Integer> fewestNotes() {
        List<List<Integer>> tries = new ArrayList<>();
        tries.add(List.of());
        for (int a = 0; a < 10 * n; a++) {
            tries.add(List.of(a));
        }
        for (int a = 0; a < 10 * n; a++) {
            for (int b = a + 1; b < 10 * n; b++) {
                tries.add(List.of(a, b));
            }
        }
        for (List<Integer> more : tries) {
            if (more.stream().allMatch(x -> x % 10 < 6) && notes.size() + more.size() <= 6 && helps(more)) {
                return more;
            }
        }
        return null;
    }

    private boolean helps(List<Integer> more) {
        NaiveDays y = copy();
        for (int x : more) {
            y.notes.add(new int[] {x / 10, x % 10});
        }
        return y.wellIn(y.now()) == n && toldOrders.stream().allMatch(r -> y.wellIn(orderOf(r)) == n);
    }

    private void fraction(long up, long down) {
        for (long g = down; g > 0; g--) {
            if (up % g == 0 && down % g == 0) {
                out.above = up / g;
                out.below = down / g;
                return;
            }
        }
    }

    int mean() {
        List<Integer> ranks = ranksWith(this::asTold);
        if (ranks.isEmpty()) {
            return refuse(NO, NO);
        }
        fraction(ranks.stream().mapToInt(r -> wellIn(orderOf(r))).sum(), ranks.size());
        return 1;
    }

    int best() {
        List<Integer> ranks = ranksWith(this::asTold);
        for (int well = n; well >= 0; well--) {
            for (int r : ranks) {
                if (wellIn(orderOf(r)) == well) {
                    return r;
                }
            }
        }
        return refuse(NO, NO);
    }

    int when(int d, int set) {
        if (noDay(d) || set < 0 || set > 63) {
            return bad();
        }
        TreeSet<Integer> places = new TreeSet<>();
        for (int r : ranksWith(o -> asTold(o) && knownOn(o, d) == set)) {
            places.add(orderOf(r).indexOf(d));
        }
        return places.stream().mapToInt(p -> 1 << p).sum();
    }

    int diary(int k, int set) {
        if (noDay(k) || set < -1 || set > 63) {
            return refuse(BAD, -10);
        }
        int was = diary[k];
        diary[k] = set;
        return was;
    }

    int torn(int what) {
        if (what != 0 && what != 1) {
            return refuse(BAD, -10);
        }
        List<Integer> ranks = ranksWith(this::fits);
        return what == 0 ? ranks.size() : ranks.isEmpty() ? NONE : ranks.get(0);
    }

    int promise(int f, int a, int b) {
        if (f < 0 || f > 5 || noDay(a) || noDay(b) || a == b) {
            return bad();
        }
        NaiveDays y = copy();
        y.teaches[a] |= 1 << f;
        fraction(y.ranksWith(o -> (y.knownOn(o, b) >> f & 1) == 1).size(), allOrders(n).size());
        return 1;
    }

    int other(int r) {
        if (noRank(r)) {
            return bad();
        }
        int was = otherRank;
        otherRank = r;
        return was;
    }

    private int both(int d) {
        return knownOn(now(), d) & knownOn(orderOf(otherRank), d);
    }

    int two(int d) {
        return noDay(d) ? bad() : both(d);
    }

    int settle(int f, int what) {
        if (f < 0 || f > 5 || what < 0 || what > 1) {
            return refuse(BAD, -10);
        }
        List<Integer> days = new ArrayList<>();
        for (int d = 0; d < n; d++) {
            if ((both(d) >> f & 1) == 1) {
                days.add(d);
            }
        }
        return what == 0 ? days.size() : days.isEmpty() ? NONE : days.get(0);
    }

    /** By how many whoever is to name now comes out ahead of the other from here on. */
    private int ahead(List<Integer> unnamed, int had) {
        int most = unnamed.isEmpty() ? 0 : -100;
        for (int d : unnamed) {
            most = Math.max(most, naming(unnamed, had, d));
        }
        return most;
    }

    private int naming(List<Integer> unnamed, int had, int d) {
        List<Integer> rest = new ArrayList<>(unnamed);
        rest.remove((Integer) d);
        return Integer.bitCount(teaches[d] & ~had) - ahead(rest, had | teaches[d]);
    }

    int game(int what) {
        if (what != 0 && what != 1) {
            return refuse(BAD, -100);
        }
        List<Integer> all = new ArrayList<>();
        for (int d = 0; d < n; d++) {
            all.add(d);
        }
        int most = ahead(all, 0);
        return what == 0 ? most : all.stream().filter(d -> naming(all, 0, d) == most).findFirst().get();
    }

    int live() {
        if (lived == n) {
            return refuse(NO, NO);
        }
        lived++;
        return missingOn(now(), now().get(lived - 1)) == 0 ? 1 : 0;
    }

    int undo() {
        return lived == 0 ? refuse(NO, NO) : --lived;
    }

    int sofar(int what) {
        if (what < 0 || what > 2) {
            return bad();
        }
        int well = 0;
        int learnt = 0;
        for (int d : now().subList(0, lived)) {
            well += missingOn(now(), d) == 0 ? 1 : 0;
            learnt |= learntBy(d);
        }
        return what == 0 ? lived : what == 1 ? well : learnt;
    }

    long part(int what) {
        return what == 0 ? out.above : what == 1 ? out.below : bad();
    }

    int image(int i) {
        if (i != 0 && i != 1) {
            return bad();
        }
        out.images[i] = copy();
        return 1;
    }

    int from(int i) {
        if (i != 0 && i != 1) {
            return bad();
        }
        if (out.images[i] == null) {
            return refuse(NO, NO);
        }
        take(out.images[i]);
        return 1;
    }

    int status(int what) {
        return what < 0 || what > 2 ? refuse(BAD, -1) : out.status[what];
    }

    int count(int what) {
        if (what < 0 || what > 6) {
            return bad();
        }
        int inDiary = (int) Arrays.stream(diary).filter(s -> s != NONE).count();
        return new int[] {n, notes.size(), pairs.size(), inDiary, toldOrders.size(), out.text.length(), rank}[what];
    }

    long digest() {
        List<Integer> row = new ArrayList<>();
        for (int what = 0; what < 7; what++) {
            row.add(count(what));
        }
        for (int d = 0; d < n; d++) {
            row.addAll(List.of(kind[d], needs[d], teaches[d], at[d]));
        }
        notes.forEach(x -> row.addAll(List.of(x[0], x[1])));
        pairs.forEach(x -> row.addAll(List.of(x[0], x[1])));
        for (int k = 0; k < n; k++) {
            row.add(diary[k]);
        }
        row.addAll(toldOrders);
        row.addAll(List.of(otherRank, lived, (int) out.above, (int) out.below));
        long h = 827;
        for (int v : row) {
            h = 31 * h + v;
        }
        return h;
    }
}
