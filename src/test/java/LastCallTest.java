import java.util.ArrayList;
import java.util.List;
import java.util.function.ToLongFunction;

/**
 * "An object is used for at most 512 calls": each call of the face answers as the 512th as it does at once, and as
 * the 511th leaves the object as it does at once.
 */
public final class LastCallTest {
    private static final Checks c = new Checks("LastCallTest");
    private static final int LAST = 512;

    private record Call(String name, ToLongFunction<ShuffledDays> on) {
    }

    public static void main(String[] args) {
        for (Call call : calls()) {
            c.due(call.name + " as the last", lastAnswer(List.of(call)), answerAtOnce(List.of(call)));
            for (Call look : looks()) {
                c.due(look.name + " behind " + call.name, lastAnswer(List.of(call, look)), answerAtOnce(List.of(call, look)));
            }
        }
        refusedToTheLast();
        c.end();
    }

    private static Call call(String name, ToLongFunction<ShuffledDays> on) {
        return new Call(name, on);
    }

    /** A life with some of everything: a call each. */
    private static List<Call> telling() {
        List<Call> tell = new ArrayList<>();
        tell.add(call("life", x -> x.life(5)));
        tell.add(call("day", x -> x.day(3, 4)));
        tell.add(call("teaches", x -> x.fact(4, 1, 0, true)));
        tell.add(call("teaches", x -> x.fact(0, 1, 1, true)));
        tell.add(call("needs", x -> x.fact(1, 0, 0, true)));
        tell.add(call("note", x -> x.note(0, 0)));
        tell.add(call("ahead", x -> x.ahead(4, 1)));
        tell.add(call("at", x -> x.at(2, 2)));
        tell.add(call("order", x -> x.order(100)));
        tell.add(call("other", x -> x.other(119)));
        tell.add(call("diary", x -> x.diary(0, 0)));
        tell.add(call("told", x -> x.told(118)));
        for (char sign : "life 2;at 0 1;".toCharArray()) {
            tell.add(call("type", x -> x.type(sign)));
        }
        tell.add(call("mean", ShuffledDays::mean));
        tell.add(call("image", x -> x.image(1)));
        tell.add(call("live", ShuffledDays::live));
        tell.add(call("live", ShuffledDays::live));
        return tell;
    }

    /** Calls that leave no trace, or none when they come one behind the other. */
    private static List<Call> between() {
        return List.of(call("hang", x -> x.hang(-1)), call("must", x -> x.must(1)), call("notes", x -> x.notes(0)),
            call("best", ShuffledDays::best), call("when", x -> x.when(0, 1)), call("torn", x -> x.torn(0)),
            call("two", x -> x.two(1)), call("settle", x -> x.settle(0, 0)), call("game", x -> x.game(0)),
            call("cards", x -> x.cards(4)), call("first", x -> x.first(0)), call("live", ShuffledDays::live),
            call("undo", ShuffledDays::undo), call("digest", ShuffledDays::digest));
    }

    private static List<Call> calls() {
        List<Call> calls = new ArrayList<>(between());
        calls.addAll(telling());
        calls.addAll(List.of(call("tear", x -> x.tear(0)), call("clear", ShuffledDays::clear),
            call("read", ShuffledDays::read), call("lived", x -> x.lived(4)), call("knows", x -> x.knows(1)),
            call("reads", x -> x.reads(1)), call("missing", x -> x.missing(1)), call("well", x -> x.first(1)),
            call("promise", x -> x.promise(0, 2, 1)), call("sofar", x -> x.sofar(1)), call("part", x -> x.part(0)),
            call("from", x -> x.from(1)), call("status", x -> x.status(0)), call("count", x -> x.count(6))));
        return calls;
    }

    private static List<Call> looks() {
        return List.of(call("digest", ShuffledDays::digest), call("status(0)", x -> x.status(0)),
            call("status(1)", x -> x.status(1)), call("status(2)", x -> x.status(2)),
            call("from(0)", x -> x.from(0)), call("knows(1)", x -> x.knows(1)));
    }

    private static long answerOf(ShuffledDays x, List<Call> calls) {
        long answer = 0;
        for (Call call : calls) {
            answer = call.on.applyAsLong(x);
        }
        return answer;
    }

    private static long answerAtOnce(List<Call> last) {
        ShuffledDays x = new ShuffledDays();
        answerOf(x, telling());
        return answerOf(x, last);
    }

    private static long lastAnswer(List<Call> last) {
        ShuffledDays x = new ShuffledDays();
        List<Call> between = between();
        List<Call> tell = telling();
        int room = LAST - last.size() - tell.size();
        // as often as it goes into the room as a whole: what is lived is undone again then
        int rest = room % between.size();
        for (int i = 0; i < rest; i++) {
            x.digest();
        }
        answerOf(x, tell);
        for (int i = rest; i < room; i += between.size()) {
            answerOf(x, between);
        }
        return answerOf(x, last);
    }

    /** 510 calls that are refused for each reason, and STATUS and one more number behind them. */
    private static void refusedToTheLast() {
        for (int row = 0; row < 3; row++) {
            ShuffledDays x = new ShuffledDays();
            int refused = row < 2 ? LAST - 2 : LAST - 5;
            if (row == 2) {
                answerOf(x, List.of(call("told", y -> y.told(0)), call("told", y -> y.told(0)), call("told", y -> y.told(0))));
            }
            for (int i = 0; i < refused; i++) {
                long answer = row == 0 ? x.game(-1) : row == 1 ? x.undo() : x.told(23);
                c.due("refusal " + i + " of row " + row, answer, row == 0 ? -100 : row == 1 ? -3 : -4);
            }
            c.due("status(" + row + ") as the call ahead of the last", x.status(row), refused);
            c.due("the last call", x.lived(3), 3);
        }
    }
}
