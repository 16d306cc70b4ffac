/** Promises 36 to 41: what there is. */
public final class WhatThereIsTest {
    private static final Checks c = new Checks("WhatThereIsTest");

    public static void main(String[] args) {
        promise36Part();
        promise37And38Images();
        promise39Status();
        promise40Count();
        promise41Digest();
        c.end();
    }

    private static void promise36Part() {
        ShuffledDays x = new ShuffledDays();
        c.due("part(0)", x.part(0), 0);
        c.due("part(1)", x.part(1), 1);
        x.fact(0, 0, 0, true);
        x.fact(1, 1, 0, true);
        x.mean();
        c.due("lowest terms", x.part(0) * 100 + x.part(1), 702);
        c.badOutside(x, "part", 0, 1, -2, x::part);
        c.due("part keeps", x.part(0) * 100 + x.part(1), 702);
    }

    private static void tellAll(ShuffledDays x) {
        x.day(3, 4);
        x.fact(1, 0, 2, true);
        x.fact(2, 1, 2, true);
        x.note(2, 2);
        x.ahead(2, 1);
        x.at(0, 3);
        x.diary(1, 4);
        x.told(1);
        x.told(7);
        x.other(2);
        x.order(3);
        x.live();
        x.live();
    }

    private static void promise37And38Images() {
        ShuffledDays x = new ShuffledDays();
        c.no(x, "from(0)", () -> x.from(0));
        c.no(x, "from(1)", () -> x.from(1));
        tellAll(x);
        long told = x.digest();
        c.due("image(0)", x.image(0), 1);
        c.no(x, "the other one", () -> x.from(1));
        x.life(6);
        x.fact(5, 1, 5, true);
        x.note(5, 5);
        x.note(4, 4);
        x.ahead(3, 5);
        x.ahead(0, 5);
        x.told(700);
        x.diary(5, 5);
        x.order(719);
        x.other(718);
        long other = x.digest();
        c.due("image(1)", x.image(1), 1);
        c.due("from(0)", x.from(0), 1);
        c.due("as it was", x.digest(), told);
        c.due("lived as it was", x.sofar(0), 2);
        c.due("kind as it was", x.day(3, 4), 4);
        c.due("from(1)", x.from(1), 1);
        c.due("as it was then", x.digest(), other);
        // what goes on is not the image itself
        x.life(2);
        c.due("from(1)", x.from(1), 1);
        c.due("as it was then", x.digest(), other);
        c.due("image(1) anew", x.image(1), 1);
        x.type(97);
        x.mean();
        x.life(3);
        c.due("bad", x.life(0), -2);
        c.due("from(0)", x.from(0), 1);
        c.due("the text is not in it", x.count(5), 1);
        c.due("the fraction is not in it", x.part(0), 6);
        c.due("status is not in it", x.status(0), 1);
        c.due("status is not in it", x.status(1), 3);
        c.due("images are not in it", x.from(1), 1);
        c.badOutside(x, "image", 0, 1, -2, x::image);
        c.badOutside(x, "from", 0, 1, -2, x::from);
    }

    private static void promise39Status() {
        ShuffledDays x = new ShuffledDays();
        x.life(0);
        x.at(9, 9);
        x.game(5);
        x.hang(-2);
        c.due("bad, told as others", x.status(0), 4);
        c.due("another what", x.status(3), -1);
        c.due("counts as bad", x.status(0), 5);
        c.due("another what", x.status(-1), -1);
        c.due("counts as bad", x.status(0), 6);
        x.hang(24);
        x.read();
        Checks.readAnew(x, "life 9;");
        c.due("these are no refusals", x.status(0) * 100 + x.status(1) * 10 + x.status(2), 600);
        x.undo();
        x.from(1);
        x.fact(0, 0, 0, false);
        c.due("no", x.status(1), 3);
        for (int i = 0; i < 5; i++) {
            x.told(0);
        }
        c.due("full", x.status(2), 2);
        x.life(5);
        c.due("a life leaves status", x.status(0) * 100 + x.status(1) * 10 + x.status(2), 632);
        x.settle(0, 3);
        x.torn(2);
        x.notes(3);
        x.diary(7, 0);
        x.part(2);
        x.count(7);
        c.due("bad, told as others", x.status(0), 12);
        x.at(0, -1);
        x.at(0, -1);
        x.settle(0, 1);
        x.first(0);
        x.notes(1);
        x.diary(0, -1);
        c.due("NONE is no refusal", x.status(0) * 100 + x.status(1) * 10 + x.status(2), 1232);
    }

    private static void promise40Count() {
        ShuffledDays x = new ShuffledDays();
        x.life(5);
        tellAll(x);
        x.diary(0, 0);
        x.diary(4, 1);
        x.note(1, 1);
        x.note(1, 2);
        x.note(1, 3);
        x.ahead(0, 1);
        Checks.type(x, "abcdef");
        x.order(100);
        int[] due = {5, 4, 2, 3, 2, 6, 100};
        for (int i = 0; i < due.length; i++) {
            c.due("count(" + i + ")", x.count(i), due[i]);
        }
        c.badOutside(x, "count", 0, 6, -2, x::count);
    }

    private static void promise41Digest() {
        ShuffledDays x = new ShuffledDays();
        x.life(3);
        x.day(0, 1);
        x.day(2, 5);
        x.fact(0, 0, 1, true);
        x.fact(1, 1, 5, true);
        x.fact(1, 1, 0, true);
        x.at(2, 1);
        x.note(1, 5);
        x.note(0, 2);
        x.ahead(2, 0);
        x.ahead(0, 1);
        x.diary(2, 7);
        x.diary(0, 0);
        x.told(5);
        x.told(2);
        x.told(3);
        x.other(4);
        x.order(1);
        Checks.type(x, "ab");
        x.promise(3, 0, 1);
        x.live();
        x.live();
        c.due("digest", x.digest(), Checks.fold(3, 2, 2, 2, 3, 2, 1,
            1, 2, 0, -1, 0, 0, 33, -1, 5, 0, 0, 1,
            1, 5, 0, 2, 2, 0, 0, 1, 0, -1, 7, 5, 2, 3, 4, 2, 1, 2));
    }
}
