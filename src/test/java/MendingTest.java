import java.util.NoSuchElementException;

/** The promises 23 to 33: mending and measures. */
public final class MendingTest {
    private static final Check CHECK = new Check("MendingTest");
    private static final Class<IllegalArgumentException> ARGUMENT = IllegalArgumentException.class;
    private static final Class<IndexOutOfBoundsException> INDEX = IndexOutOfBoundsException.class;
    private static final Class<NoSuchElementException> NONE = NoSuchElementException.class;

    public static void main(String[] args) {
        mark();
        undone();
        undoneBetween();
        yarn();
        yarnOfColours();
        setBall();
        ballEnd();
        setFloat();
        longest();
        catches();
        gaugeAndWidth();
        shapeRow();
        CHECK.end();
    }

    private static void mark() {
        Stitchwright x = Told.knit(3, "k3");
        CHECK.eq("marked", x.mark(0, 1, 2), true);
        CHECK.eq("another one", x.mark(0, 0, 2), true);
        CHECK.eq("taken away", x.mark(0, 1, 2), false);
        CHECK.eq("marked again", x.mark(0, 1, 2), true);
        CHECK.eq("another size", x.mark(1, 1, 2), true);
        CHECK.fails("no such loop", INDEX, () -> x.mark(0, 1, 3));
        CHECK.fails("no such row", INDEX, () -> x.mark(0, 2, 0));
        CHECK.fails("row -1", INDEX, () -> x.mark(0, -1, 0));
        CHECK.fails("size 3", INDEX, () -> x.mark(3, 0, 0));
        CHECK.eq("the other size has its own", x.undone(1), 1);
        CHECK.eq("the third has none", x.undone(2), 0);
        Told.replace(x, 1, "tk");
        CHECK.eq("no such loop any more", x.undone(1), 0);
        CHECK.fails("so it can't be unmarked", INDEX, () -> x.mark(1, 1, 2));
        Told.replace(x, 1, "p3");
        CHECK.eq("there again, and so is its mark", x.undone(1), 1);
        CHECK.eq("it is taken away", x.mark(1, 1, 2), false);
        x.setNumber('A', 1, 0);
        CHECK.fails("no loops", INDEX, () -> x.mark(1, 0, 0));
    }

    private static void undone() {
        Stitchwright x = Told.knit(4, "ftk", "[k]", "tx");
        CHECK.eq("no mistakes", x.undone(0), 0);
        x.mark(0, 0, 3);
        CHECK.eq("cast on: k, k and one that crosses", x.undone(0), 4);
        x.mark(0, 0, 3);
        x.mark(0, 0, 0);
        CHECK.eq("both by f, both above, the one by t", x.undone(0), 6);
        x.mark(0, 2, 1);
        CHECK.eq("marked and coming of an undone one", x.undone(0), 6);
        x.mark(0, 0, 0);
        CHECK.eq("the second parent of t, and nothing below", x.undone(0), 2);
        x.mark(0, 2, 2);
        CHECK.eq("one that crosses too", x.undone(0), 4);
        x.mark(0, 2, 1);
        CHECK.eq("this one alone", x.undone(0), 2);
        x.mark(0, 2, 0);
        CHECK.eq("the first parent of t", x.undone(0), 4);
        CHECK.eq("bound off above", Told.knit(2, "ok").undone(0), 0);
        Stitchwright o = Told.knit(2, "ok");
        o.mark(0, 0, 0);
        CHECK.eq("nothing comes of what is bound off", o.undone(0), 1);
        Stitchwright held = Told.flat(3, "k/", "k");
        held.mark(0, 0, 2);
        CHECK.eq("h comes of it", held.undone(0), 3);
        CHECK.fails("size 3", INDEX, () -> x.undone(3));
        CHECK.fails("size -1", INDEX, () -> x.undone(-1));
    }

    private static void undoneBetween() {
        Stitchwright x = Told.knit(2, "kyk", "[k]");
        x.mark(0, 0, 0);
        CHECK.eq("one side alone", x.undone(0), 3);
        x.mark(0, 0, 1);
        CHECK.eq("both sides: y and what comes of it", x.undone(0), 8);
        x.mark(0, 0, 0);
        CHECK.eq("the other side alone", x.undone(0), 3);
        Stitchwright more = Told.knit(2, "kymyk");
        more.mark(0, 1, 0);
        more.mark(0, 1, 4);
        CHECK.eq("both marked, and three between", more.undone(0), 5);
        more.mark(0, 1, 2);
        CHECK.eq("m marked too", more.undone(0), 5);
        more.mark(0, 1, 0);
        CHECK.eq("m does not count as the next one", more.undone(0), 2);
        Stitchwright edge = Told.knit(2, "ykky");
        edge.mark(0, 0, 0);
        edge.mark(0, 0, 1);
        CHECK.eq("none at a lower place, none at a higher one", edge.undone(0), 4);
        edge.mark(0, 1, 0);
        CHECK.eq("but marked", edge.undone(0), 5);
        Stitchwright alone = Told.knit(1, "oym");
        alone.mark(0, 0, 0);
        CHECK.eq("none that comes of some", alone.undone(0), 1);
        Stitchwright cast = Told.castOn(3);
        cast.mark(0, 0, 0);
        cast.mark(0, 0, 2);
        CHECK.eq("cast on ones come of none", cast.undone(0), 2);
        Stitchwright flat = Told.flat(2, "k2", "kyk");
        flat.mark(0, 1, 0);
        flat.mark(0, 1, 1);
        CHECK.eq("on the wrong side too", flat.undone(0), 5);
    }

    private static void yarn() {
        CHECK.eq("cast on", Told.castOn(5).yarn(0, '*'), 10);
        String[] rows = {"k", "p", "l", "m", "f", "w", "y", "t", "s", "x", "z", "o"};
        int[] loops = {1, 1, 1, 1, 1, 1, 1, 2, 2, 2, 2, 1};
        int[] takes = {3, 3, 3, 6, 6, 3, 5, 4, 4, 10, 10, 2};
        for (int i = 0; i < rows.length; i++) {
            String row = rows[i].equals("m") || rows[i].equals("y") ? rows[i] + "k" : rows[i];
            CHECK.eq("yarn of " + row, Told.knit(loops[i], row).yarn(0, '*'), 2 * loops[i] + takes[i]);
        }
        Stitchwright flat = Told.flat(4, "k/", "k");
        CHECK.eq("h takes none", flat.yarn(0, 'a'), 14);
        Stitchwright bound = Told.knit(3, "[o]", "k");
        CHECK.eq("bound off", bound.yarn(0, 'a'), 12);
        Stitchwright open = Told.knit(3, "k3", "o2");
        CHECK.eq("not by a row that does not close", open.yarn(0, '*'), 15);
        CHECK.eq("nothing", Told.empty().yarn(0, '*'), 0);
        CHECK.fails("size 3", INDEX, () -> flat.yarn(3, 'a'));
        CHECK.fails("size -1 and no colour", INDEX, () -> flat.yarn(-1, 'c'));
        CHECK.fails("no colour", ARGUMENT, () -> flat.yarn(0, 'c'));
        CHECK.fails("no colour k", ARGUMENT, () -> flat.yarn(0, 'k'));
        CHECK.fails("no colour A", ARGUMENT, () -> flat.yarn(0, 'A'));
    }

    private static void yarnOfColours() {
        Stitchwright x = Told.knit(6, "kbkxdofy", "bo[k]");
        CHECK.eq("a: cast on and k", x.yarn(0, 'a'), 12 + 3);
        CHECK.eq("b: k and x, then o and k", x.yarn(0, 'b'), 13 + 2 + 18);
        CHECK.eq("d: o, f and y", x.yarn(0, 'd'), 2 + 6 + 2);
        CHECK.eq("all", x.yarn(0, '*'), 15 + 33 + 10);
    }

    private static void setBall() {
        Stitchwright x = Told.empty();
        CHECK.eq("at first", x.setBall(10), 100);
        CHECK.eq("least", x.setBall(999), 10);
        CHECK.eq("most", x.setBall(50), 999);
        CHECK.fails("9", ARGUMENT, () -> x.setBall(9));
        CHECK.fails("1000", ARGUMENT, () -> x.setBall(1000));
        CHECK.fails("-50", ARGUMENT, () -> x.setBall(-50));
        CHECK.eq("nothing changed", x.setBall(50), 50);
    }

    private static void ballEnd() {
        Stitchwright x = Told.knit(5, "k5", "bk5", "o5");
        x.setBall(10);
        CHECK.eq("the row 0", x.ballEnd(0, 'a', 0), 0);
        CHECK.eq("the row 1", x.ballEnd(0, 'a', 1), 1);
        CHECK.eq("just so much by the row 3", x.ballEnd(0, 'b', 0), 2);
        CHECK.fails("b is not used up again", NONE, () -> x.ballEnd(0, 'b', 1));
        CHECK.eq("35 by a", x.yarn(0, 'a'), 35);
        CHECK.eq("the third", x.ballEnd(0, 'a', 2), 3);
        CHECK.fails("the fourth", NONE, () -> x.ballEnd(0, 'a', 3));
        x.setBall(35);
        CHECK.eq("just the yarn there is", x.ballEnd(0, 'a', 0), 3);
        x.setBall(36);
        CHECK.fails("one more", NONE, () -> x.ballEnd(0, 'a', 0));
        x.setBall(12);
        CHECK.eq("those before count", x.ballEnd(0, 'a', 1), 1);
        CHECK.fails("none of d", NONE, () -> x.ballEnd(0, 'd', 0));
        CHECK.fails("far too many", NONE, () -> x.ballEnd(0, 'a', Integer.MAX_VALUE));
        x.setBall(999);
        CHECK.fails("a product beyond an int", NONE, () -> x.ballEnd(0, 'a', 4299161));
        CHECK.fails("ball -1", ARGUMENT, () -> x.ballEnd(0, 'a', -1));
        CHECK.fails("all colours", ARGUMENT, () -> x.ballEnd(0, '*', 0));
        CHECK.fails("colour c", ARGUMENT, () -> x.ballEnd(0, 'c', 0));
        CHECK.fails("size 3", INDEX, () -> x.ballEnd(3, 'c', -1));
        CHECK.fails("size -1", INDEX, () -> x.ballEnd(-1, 'a', 0));
    }

    private static void setFloat() {
        Stitchwright x = Told.empty();
        CHECK.eq("at first", x.setFloat(1), 4);
        CHECK.eq("least", x.setFloat(20), 1);
        CHECK.eq("most", x.setFloat(3), 20);
        CHECK.fails("0", ARGUMENT, () -> x.setFloat(0));
        CHECK.fails("21", ARGUMENT, () -> x.setFloat(21));
        CHECK.fails("-1", ARGUMENT, () -> x.setFloat(-1));
        CHECK.eq("nothing changed", x.setFloat(3), 3);
    }

    private static int longest(String row) {
        return Told.knit(10, row).longest(0, 1);
    }

    private static void longest() {
        CHECK.eq("one colour", longest("[k]"), 0);
        CHECK.eq("two colours beside one another", longest("k5bk5"), 0);
        CHECK.eq("one between", longest("k5bkak4"), 1);
        CHECK.eq("four between", longest("k2bk4ak4"), 4);
        CHECK.eq("two other colours between", longest("k2bk2dk3ak3"), 5);
        CHECK.eq("the longest of some", longest("kbkdk3bkakdk2bk"), 5);
        CHECK.eq("not over the end", longest("kbk8dk"), 0);
        CHECK.eq("what is bound off is no loop", longest("kbko2kak4bo"), 2);
        CHECK.eq("what is made of none is one", longest("kby2m2f2ak7"), 8);
        Stitchwright flat = Told.flat(4, "bkakdk/", "dkakbk");
        CHECK.eq("no float to what is left", flat.longest(0, 1), 0);
        CHECK.eq("no float from what stays", flat.longest(0, 2), 0);
        Stitchwright low = Told.flat(4, "k4", "k3/", "dkak2");
        CHECK.eq("nor from what stays at the place 0", low.longest(0, 3), 0);
        CHECK.eq("which stays", low.stitch(0, 3, 0), 'h');
        Stitchwright held = Told.flat(6, "bk3ak/", "bkakbk/", "k[k]");
        CHECK.eq("on the wrong side", held.longest(0, 2), 1);
        CHECK.eq("cast on", held.longest(0, 0), 0);
        CHECK.fails("no row", NONE, () -> held.longest(0, 4));
        CHECK.fails("row -1", NONE, () -> held.longest(0, -1));
        CHECK.fails("size 3", INDEX, () -> held.longest(3, 9));
    }

    private static void catches() {
        Stitchwright x = Told.knit(20, "kbk9ak2bk4ak4", "kbk5ak5bkak8");
        CHECK.eq("limit 4", x.catches(0), 1 + 0 + 1 + 1);
        CHECK.eq("floats of the row 1", x.longest(0, 1), 9);
        x.setFloat(1);
        CHECK.eq("limit 1", x.catches(0), 4 + 1 + 2 + 2 + 2 + 0);
        x.setFloat(8);
        CHECK.eq("limit 8", x.catches(0), 1);
        x.setFloat(9);
        CHECK.eq("limit 9", x.catches(0), 0);
        Stitchwright five = Told.knit(8, "kbk5ak2");
        CHECK.eq("five at 4", five.catches(0), 1);
        Stitchwright ten = Told.knit(12, "kbk10ak");
        CHECK.eq("ten at 4", ten.catches(0), 2);
        CHECK.eq("nothing", Told.empty().catches(0), 0);
        CHECK.fails("size 3", INDEX, () -> x.catches(3));
        CHECK.fails("size -1", INDEX, () -> x.catches(-1));
    }

    private static void gaugeAndWidth() {
        Stitchwright x = Told.knit(7, "k7", "yk7");
        CHECK.eq("20 are 100 wide", x.width(0, 0), 35);
        CHECK.eq("rounded down", x.setGauge(9), 20);
        CHECK.eq("700 by 9", x.width(0, 1), 77);
        CHECK.eq("800 by 9", x.width(0, 2), 88);
        CHECK.eq("least", x.setGauge(1), 9);
        CHECK.eq("widest", x.width(0, 2), 800);
        CHECK.eq("most", x.setGauge(60), 1);
        CHECK.eq("narrowest", x.width(0, 2), 13);
        CHECK.fails("0", ARGUMENT, () -> x.setGauge(0));
        CHECK.fails("61", ARGUMENT, () -> x.setGauge(61));
        CHECK.fails("-20", ARGUMENT, () -> x.setGauge(-20));
        CHECK.eq("nothing changed", x.setGauge(20), 60);
        CHECK.eq("nothing cast on", Told.empty().width(2, 0), 0);
        CHECK.fails("no row", NONE, () -> x.width(0, 3));
        CHECK.fails("row -1", NONE, () -> x.width(0, -1));
        CHECK.fails("size 3", INDEX, () -> x.width(3, 9));
        CHECK.fails("size -1", INDEX, () -> x.width(-1, 0));
    }

    private static void shapeRow() {
        Stitchwright x = Told.empty();
        CHECK.eq("one in one", x.shapeRow(1, 1, 0), 1);
        CHECK.eq("one in 200", x.shapeRow(1, 200, 0), 200);
        CHECK.eq("first of 40 in 200", x.shapeRow(40, 200, 0), 5);
        CHECK.eq("last of 40 in 200", x.shapeRow(40, 200, 39), 200);
        CHECK.eq("each row", x.shapeRow(40, 40, 17), 18);
        CHECK.eq("first of 7 in 24", x.shapeRow(7, 24, 0), 3);
        CHECK.eq("second of 7 in 24", x.shapeRow(7, 24, 1), 6);
        CHECK.eq("third of 7 in 24", x.shapeRow(7, 24, 2), 10);
        CHECK.eq("last of 7 in 24", x.shapeRow(7, 24, 6), 24);
        CHECK.fails("no loops", ARGUMENT, () -> x.shapeRow(0, 5, 0));
        CHECK.fails("41 loops", ARGUMENT, () -> x.shapeRow(41, 50, 0));
        CHECK.fails("fewer rows than loops", ARGUMENT, () -> x.shapeRow(5, 4, 0));
        CHECK.fails("201 rows", ARGUMENT, () -> x.shapeRow(5, 201, 0));
        CHECK.fails("a number and the loop", ARGUMENT, () -> x.shapeRow(5, 201, 5));
        CHECK.fails("loop -1", INDEX, () -> x.shapeRow(5, 5, -1));
        CHECK.fails("loop 5 of 5", INDEX, () -> x.shapeRow(5, 9, 5));
    }
}
