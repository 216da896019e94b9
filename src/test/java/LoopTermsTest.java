import java.util.NoSuchElementException;

/**
 * The section "Terms" from "Closing" on to "Braids", sentence by sentence: for each bound that one
 * of them names, the last value that is allowed and the first one that is not, none at all, and the
 * most.
 */
public final class LoopTermsTest {
    private static final Check CHECK = new Check("LoopTermsTest");
    private static final Class<NoSuchElementException> NONE = NoSuchElementException.class;
    private static final Class<UnsupportedOperationException> UNSUPPORTED = UnsupportedOperationException.class;

    public static void main(String[] args) {
        rowBeforeHasLoops();
        stitchesFindTheirLoops();
        noLoopIsLeft();
        atMostSixty();
        sizeCloses();
        fabricUpToTheFirst();
        holding();
        boundOffHolds();
        noLoopRuns();
        undoneInTheirRow();
        undoneOfUndone();
        undoneBetween();
        undoneAtTheEdges();
        yarnOfStitches();
        yarnOfRows();
        balls();
        ballsOfColours();
        caught();
        floats();
        floatsOfColours();
        floatsOfStitches();
        floatsAndTurns();
        braidLoops();
        braidRows();
        crossings();
        alike();
        CHECK.end();
    }

    private static boolean closes(int loops, String... rows) {
        return Told.knit(loops, rows).closes(0);
    }

    // "A row closes if the row before has loops, all its stitches find the loops that they take, no loop is left over
    // without /, it turns in a flat size alone, and at most 60 loops are in it then."

    private static void rowBeforeHasLoops() {
        for (String row : new String[] {"k0", "y", "b", "[k]", "[o]", "(k)0", "m2"}) {
            Stitchwright x = Told.knit(0, row);
            CHECK.eq("over nothing cast on: " + row, x.closes(0), false);
            CHECK.eq("no such row: " + row, x.rows(0), 0);
            CHECK.eq("over nothing cast on, flat: " + row + "/", Told.flat(0, row + "/").rows(0), 0);
            Stitchwright bound = Told.knit(1, "o", row);
            CHECK.eq("over a row without loops: " + row, bound.closes(0), false);
            CHECK.eq("its rows: " + row, bound.rows(0), 1);
        }
        CHECK.eq("a row without loops itself", closes(1, "o"), true);
        CHECK.eq("over one loop", closes(1, "k"), true);
        CHECK.eq("over one loop that is made of none", closes(1, "oy", "k"), true);
    }

    private static void stitchesFindTheirLoops() {
        CHECK.eq("the last k finds one", closes(3, "k3"), true);
        CHECK.eq("the last k finds none", closes(2, "k3"), false);
        CHECK.eq("t finds two", closes(3, "kt"), true);
        CHECK.eq("t finds one", closes(2, "kt"), false);
        CHECK.eq("t finds none", closes(1, "kt"), false);
        CHECK.eq("s finds one", closes(2, "ks"), false);
        CHECK.eq("x finds one", closes(2, "kx"), false);
        CHECK.eq("z finds one", closes(2, "kz"), false);
        CHECK.eq("o finds one", closes(2, "ko"), true);
        CHECK.eq("o finds none", closes(1, "ko"), false);
        CHECK.eq("in brackets", closes(5, "(kt)2"), false);
        CHECK.eq("in brackets, enough", closes(6, "(kt)2"), true);
        CHECK.eq("y and m find what they take, which is none", closes(1, "kym"), true);
        CHECK.eq("in a flat size, before /", Told.flat(2, "kt/").closes(0), false);
        CHECK.eq("behind a turn, of the others alone", Told.flat(4, "k2/", "k3").rows(0), 1);
    }

    private static void noLoopIsLeft() {
        CHECK.eq("one left", closes(4, "k3"), false);
        CHECK.eq("none left", closes(3, "k3"), true);
        CHECK.eq("all left", closes(1, "b"), false);
        CHECK.eq("one left by [ ]", closes(3, "[k2]"), false);
        Stitchwright flat = Told.flat(4, "k3");
        CHECK.eq("one left in a flat size without /", flat.closes(0), false);
        Told.replace(flat, 1, "k3/");
        CHECK.eq("one left with /", flat.closes(0), true);
        Told.replace(flat, 1, "k4/");
        CHECK.eq("none left with /", flat.closes(0), true);
        Told.replace(flat, 1, "k5/");
        CHECK.eq("one too few with /", flat.closes(0), false);
    }

    private static void atMostSixty() {
        for (String row : new String[] {"[f]", "y30[k]", "[k]y30", "m15[k]y15", "(y)30[k]", "[yk]"}) {
            CHECK.eq("60 by " + row, Told.knit(30, row).loops(0, 1), 60);
            CHECK.eq("61 by y" + row, closes(30, "y" + row), false);
            CHECK.eq("61 by " + row + "y", closes(30, row + "y"), false);
        }
        CHECK.eq("62 by one more cast on", closes(31, "[f]"), false);
        CHECK.eq("60 in each of two rows", closes(30, "[f]", "[k]"), true);
        CHECK.eq("61 in the second one", Told.knit(30, "[f]", "[k]y").rows(0), 1);
        CHECK.eq("more than 60 worked, fewer made", Told.knit(40, "[o]20y40[k]").loops(0, 1), 60);
        CHECK.eq("more than 60 taken, and 30 made", Told.knit(30, "[f]", "[t]").loops(0, 2), 30);
    }

    // "A size closes if all rows do, and at least one loop is cast on. The fabric of a size has the rows up to the first
    // one that does not close; the row 0 is that which was cast on."

    private static void sizeCloses() {
        Stitchwright x = Told.empty();
        CHECK.eq("nothing cast on, no row", x.closes(1), false);
        CHECK.eq("its row 0 is there", x.loops(1, 0), 0);
        x.setNumber('A', 1, 1);
        CHECK.eq("one cast on, no row", x.closes(1), true);
        Told.add(x, "k");
        CHECK.eq("one cast on, one row", x.closes(1), true);
        CHECK.eq("the other sizes do not", x.closes(0) || x.closes(2), false);
        x.setNumber('A', 1, 0);
        CHECK.eq("nothing cast on any more", x.closes(1), false);
        CHECK.eq("no rows any more", x.rows(1), 0);
        x.setNumber('A', 1, 2);
        CHECK.eq("a row does not close", x.closes(1), false);
    }

    private static void fabricUpToTheFirst() {
        Stitchwright x = Told.castOn(2);
        for (int row = 1; row <= 24; row++) {
            Told.add(x, "k2");
        }
        for (int wrong : new int[] {1, 2, 12, 23, 24}) {
            Told.replace(x, wrong, "k3");
            CHECK.eq("rows before the row " + wrong, x.rows(0), wrong - 1);
            CHECK.eq("it does not close", x.closes(0), false);
            CHECK.eq("the last one before it", x.loops(0, wrong - 1), 2);
            CHECK.fails("the row itself", NONE, () -> x.loops(0, wrong));
            Told.replace(x, wrong, "k2");
            CHECK.eq("all rows again", x.rows(0), 24);
            CHECK.eq("it closes again", x.closes(0), true);
        }
        Told.replace(x, 3, "k1");
        Told.replace(x, 9, "k1");
        CHECK.eq("up to the first of two", x.rows(0), 2);
        Told.replace(x, 3, "k2");
        CHECK.eq("up to the second one then", x.rows(0), 8);
    }

    // "If a loop of the last row is dropped, it falls; and so does each loop, not bound off, in a row before, of which
    // all loops that come of it fall."

    private static void holding() {
        Stitchwright x = Told.castOn(3);
        CHECK.eq("of the row 0, itself alone", x.unravel(0, 0), 1);
        CHECK.eq("the last place", x.unravel(0, 2), 1);
        for (int row = 1; row <= 24; row++) {
            Told.add(x, "k3");
            CHECK.eq("down " + row + " rows", x.unravel(0, 2), row + 1);
        }
        CHECK.eq("the cast-on loop below falls", x.falls(0, 2, 0, 2), true);
        CHECK.eq("the one beside it stays", x.falls(0, 2, 0, 1), false);
        CHECK.eq("the one beside it in the last row stays", x.falls(0, 2, 24, 1), false);
        Stitchwright both = Told.knit(1, "f", "t");
        CHECK.eq("all that come of it fall", both.unravel(0, 0), 4);
        Stitchwright one = Told.knit(1, "f");
        CHECK.eq("one of two falls", one.unravel(0, 0), 1);
        CHECK.eq("what both come of stays", one.falls(0, 0, 0, 0), false);
        Stitchwright made = Told.knit(1, "yk", "k2");
        CHECK.eq("down to what is made of none", made.unravel(0, 0), 2);
        Stitchwright crossed = Told.knit(2, "x", "kp");
        CHECK.eq("down where it comes from", crossed.falls(0, 0, 0, 1), true);
        CHECK.eq("not straight down", crossed.falls(0, 0, 0, 0), false);
        Stitchwright turned = Told.flat(2, "k/", "k");
        CHECK.eq("down loops that stayed", turned.unravel(0, 1), 3);
    }

    private static void boundOffHolds() {
        Stitchwright x = Told.knit(3, "kok", "k2");
        CHECK.eq("nothing comes of it, and it stays", x.falls(0, 0, 0, 1), false);
        CHECK.eq("the loop beside it alone", x.unravel(0, 0), 3);
        CHECK.eq("behind it too", x.unravel(0, 1), 3);
        Stitchwright f = Told.knit(1, "f", "ko");
        CHECK.eq("one of two bound off: what both come of stays", f.unravel(0, 0), 2);
        CHECK.eq("it stays", f.falls(0, 0, 0, 0), false);
        Stitchwright below = Told.knit(2, "k2", "ok");
        CHECK.eq("what is below it stays", below.falls(0, 0, 0, 0), false);
    }

    // "No loop of a fabric runs: one comes of it, it is bound off, or it is in the last row."

    private static void noLoopRuns() {
        Stitchwright x = Told.flat(12, "kplwymftsxo", "[w]3/", "[o]2k2", "[t]0[k]", "[o]", "k");
        CHECK.eq("sound", x.isSound(), true);
        for (int row = 0; row <= x.rows(0); row++) {
            for (int place = 0; place < x.loops(0, row); place++) {
                boolean isLast = row == x.rows(0);
                boolean holds = x.children(0, row, place) > 0;
                CHECK.eq("one of the three, row " + row, holds || x.isBound(0, row, place) || isLast, true);
                CHECK.eq("no two of them, row " + row, holds && x.isBound(0, row, place), false);
                CHECK.eq("none comes of the last row", isLast && holds, false);
            }
        }
        CHECK.eq("a new object", Told.empty().isSound(), true);
    }

    // "To mend them, row by row from the row 0 on, a loop is undone if it is marked, or comes of an undone one; .."

    private static int undone(Stitchwright x, int... marks) {
        for (int i = 0; i + 1 < marks.length; i += 2) {
            x.mark(0, marks[i], marks[i + 1]);
        }
        int undone = x.undone(0);
        for (int i = 0; i + 1 < marks.length; i += 2) {
            x.mark(0, marks[i], marks[i + 1]);
        }
        return undone;
    }

    private static void undoneInTheirRow() {
        Stitchwright x = Told.knit(3, "k3", "k3");
        CHECK.eq("no mark", undone(x), 0);
        CHECK.eq("in the last row", undone(x, 2, 0), 1);
        CHECK.eq("its last place", undone(x, 2, 2), 1);
        CHECK.eq("in the row before", undone(x, 1, 1), 2);
        CHECK.eq("in the row 0", undone(x, 0, 2), 3);
        CHECK.eq("two above one another", undone(x, 0, 2, 1, 2), 3);
        CHECK.eq("all of the row 0", undone(x, 0, 0, 0, 1, 0, 2), 9);
        CHECK.eq("all of the last row", undone(x, 2, 0, 2, 1, 2, 2), 3);
        Stitchwright nothing = Told.knit(1, "o");
        CHECK.eq("what is bound off", undone(nothing, 0, 0), 1);
        CHECK.eq("a new object", Told.empty().undone(2), 0);
    }

    private static void undoneOfUndone() {
        CHECK.eq("both of f", undone(Told.knit(1, "f"), 0, 0), 3);
        CHECK.eq("t by its first one", undone(Told.knit(2, "t"), 0, 0), 2);
        CHECK.eq("t by its second one", undone(Told.knit(2, "t"), 0, 1), 2);
        CHECK.eq("s by its second one", undone(Told.knit(2, "s"), 0, 1), 2);
        CHECK.eq("t by both", undone(Told.knit(2, "t"), 0, 0, 0, 1), 3);
        CHECK.eq("x by one", undone(Told.knit(2, "x", "ko"), 0, 0), 2);
        CHECK.eq("x by the other one", undone(Told.knit(2, "x", "ko"), 0, 1), 3);
        CHECK.eq("h", undone(Told.flat(2, "k/", "k"), 0, 1), 3);
        CHECK.eq("up, but not down", undone(Told.knit(2, "k2", "t", "f"), 1, 0), 4);
    }

    // "and one that comes of none also if the next loop at a lower place that comes of some and the next one at a higher
    // place that does are there, and are undone by that."

    private static void undoneBetween() {
        for (int made = 1; made <= 5; made++) {
            Stitchwright x = Told.knit(2, "ky" + made + "k");
            CHECK.eq("none of " + made + ": below alone", undone(x, 0, 0), 2);
            CHECK.eq("none of " + made + ": above alone", undone(x, 0, 1), 2);
            CHECK.eq("all of " + made + ": both below them", undone(x, 0, 0, 0, 1), 4 + made);
            CHECK.eq("all of " + made + ": both beside them marked", undone(x, 1, 0, 1, made + 1), 2 + made);
            CHECK.eq("all of " + made + ": one marked, one below", undone(x, 1, 0, 0, 1), 3 + made);
        }
        Stitchwright m = Told.knit(3, "kykmk", "k5");
        CHECK.eq("y between the first two alone, and what comes of it", undone(m, 0, 0, 0, 1), 2 + 2 + 1 + 3);
        CHECK.eq("m between the last two alone", undone(m, 0, 1, 0, 2), 2 + 2 + 1 + 3);
        CHECK.eq("the first and the last: the middle one stands between", undone(m, 0, 0, 0, 2), 2 + 2 + 2);
        CHECK.eq("y itself marked, its neighbours not", undone(m, 1, 1), 2);
        CHECK.eq("a marked y is no loop that comes of some", undone(Told.knit(2, "kyymk"), 1, 1, 1, 0), 2);
        CHECK.eq("by t and f beside it", undone(Told.knit(3, "tyf"), 0, 1, 0, 2), 2 + 1 + 1 + 2);
        CHECK.eq("by loops that stay", undone(Told.flat(2, "ky/"), 0, 0, 0, 1), 2 + 3);
    }

    private static void undoneAtTheEdges() {
        Stitchwright x = Told.knit(2, "ykkm");
        CHECK.eq("none at a lower place, none at a higher one", undone(x, 0, 0, 0, 1), 4);
        CHECK.eq("marked themselves", undone(x, 1, 0, 1, 3), 2);
        CHECK.eq("none that comes of some at all", undone(Told.knit(1, "yom"), 0, 0), 1);
        CHECK.eq("cast-on ones between undone ones", undone(Told.castOn(3), 0, 0, 0, 2), 2);
        CHECK.eq("two behind one another at the edge", undone(Told.knit(1, "yyk"), 0, 0), 2);
        CHECK.eq("two behind the last one", undone(Told.knit(1, "kmm"), 0, 0), 2);
    }

    // "A loop takes 3 of its colour if it is made by k, p, l, m or f, 2 if it was cast on or made by y, 4 if by t or s,
    // 5 if by x or z, 0 if by h; one that is bound off takes 2 of the colour of that stitch."

    private static void yarnOfStitches() {
        String[] stitches = {"k", "p", "l", "m", "f", "y", "t", "s", "x", "z", "o", "w"};
        int[] takes = {3, 3, 3, 3, 6, 2, 4, 4, 10, 10, 2, 3};
        for (int i = 0; i < stitches.length; i++) {
            int loops = "tsxz".contains(stitches[i]) ? 2 : "ym".contains(stitches[i]) ? 0 : 1;
            Stitchwright x = Told.knit(loops + 1, "d" + stitches[i] + "bk");
            CHECK.eq("in its colour: " + stitches[i], x.yarn(0, 'd'), takes[i]);
            CHECK.eq("the other one: " + stitches[i], x.yarn(0, 'b'), 3);
            CHECK.eq("cast on in a: " + stitches[i], x.yarn(0, 'a'), 2 * loops + 2);
            CHECK.eq("all: " + stitches[i], x.yarn(0, '*'), 2 * loops + 5 + takes[i]);
        }
        Stitchwright held = Told.flat(3, "bk2/", "dk");
        CHECK.eq("h takes none of b", held.yarn(0, 'b'), 6);
        CHECK.eq("nor any of a", held.yarn(0, 'a'), 6);
        CHECK.eq("w over p", Told.knit(1, "p", "bw").yarn(0, 'b'), 3);
        CHECK.eq("nothing", Told.empty().yarn(1, '*'), 0);
        CHECK.eq("cast on alone", Told.castOn(40).yarn(2, '*'), 80);
        CHECK.eq("60 crossed", Told.knit(30, "[f]", "b[x]").yarn(0, 'b'), 300);
    }

    // "Yarn of a loop that is bound off belongs to the row that binds it off."

    private static void yarnOfRows() {
        Stitchwright x = Told.knit(5, "bo5");
        x.setBall(10);
        CHECK.eq("ten in the row 0", x.ballEnd(0, 'a', 0), 0);
        CHECK.eq("ten in the row that binds off", x.ballEnd(0, 'b', 0), 1);
        CHECK.eq("all", x.yarn(0, '*'), 20);
        Stitchwright open = Told.knit(5, "bk5", "do4");
        CHECK.eq("none of a row that does not close", open.yarn(0, 'd'), 0);
        Told.replace(open, 2, "do5");
        CHECK.eq("now it closes", open.yarn(0, 'd'), 10);
        Told.replace(open, 2, "do4k");
        CHECK.eq("four, and one knit", open.yarn(0, 'd'), 11);
        Told.replace(open, 2, "dk5");
        CHECK.eq("none bound off any more", open.yarn(0, 'd'), 15);
        Stitchwright back = Told.flat(2, "k2", "boda");
        CHECK.eq("a loop too many", back.rows(0), 1);
        Told.replace(back, 2, "bodo");
        CHECK.eq("b on the wrong side", back.yarn(0, 'b'), 2);
        CHECK.eq("d on the wrong side", back.yarn(0, 'd'), 2);
    }

    // "Balls of a colour are used one behind the other, each so long as told, 100 at first." "the first one by the end
    // of which the yarn of this colour, from the row 0 on, is at least that of this ball and those before"

    private static void balls() {
        Stitchwright x = Told.flat(20, "k20");
        CHECK.eq("100 by the row 1", x.yarn(0, 'a'), 100);
        CHECK.eq("just a ball", x.ballEnd(0, 'a', 0), 1);
        CHECK.fails("no second one", NONE, () -> x.ballEnd(0, 'a', 1));
        Stitchwright less = Told.flat(21, "k19/");
        CHECK.eq("99", less.yarn(0, 'a'), 99);
        CHECK.fails("not just a ball", NONE, () -> less.ballEnd(0, 'a', 0));
        less.setBall(99);
        CHECK.eq("just a shorter ball", less.ballEnd(0, 'a', 0), 1);
        x.setBall(50);
        CHECK.eq("the first of two", x.ballEnd(0, 'a', 0), 1);
        CHECK.eq("just the second of two", x.ballEnd(0, 'a', 1), 1);
        CHECK.fails("no third one", NONE, () -> x.ballEnd(0, 'a', 2));
        x.setBall(51);
        CHECK.fails("not the second of two", NONE, () -> x.ballEnd(0, 'a', 1));
        x.setBall(40);
        CHECK.eq("just the row 0", x.ballEnd(0, 'a', 0), 0);
        x.setBall(41);
        CHECK.eq("not just the row 0", x.ballEnd(0, 'a', 0), 1);
        x.setBall(10);
        for (int ball = 0; ball < 10; ball++) {
            CHECK.eq("ball " + ball, x.ballEnd(0, 'a', ball), ball < 4 ? 0 : 1);
        }
        CHECK.fails("ball 10", NONE, () -> x.ballEnd(0, 'a', 10));
        Stitchwright long1 = Told.castOn(40);
        for (int row = 1; row <= 24; row++) {
            Told.add(long1, row == 24 ? "[x]" : "[k]");
        }
        long1.setBall(999);
        CHECK.eq("the first row at 999 or more", long1.ballEnd(0, 'a', 0), 8);
        CHECK.eq("the first row at 1998 or more", long1.ballEnd(0, 'a', 1), 16);
        CHECK.eq("80, 23 times 120, and 200", long1.yarn(0, 'a'), 3040);
        CHECK.eq("the row 24", long1.ballEnd(0, 'a', 2), 24);
        CHECK.fails("a fourth one", NONE, () -> long1.ballEnd(0, 'a', 3));
        long1.setBall(760);
        CHECK.eq("just the yarn there is", long1.ballEnd(0, 'a', 3), 24);
    }

    private static void ballsOfColours() {
        Stitchwright x = Told.knit(5, "bk5", "dk5", "bk5");
        x.setBall(15);
        CHECK.eq("b", x.ballEnd(0, 'b', 0), 1);
        CHECK.eq("the second of b", x.ballEnd(0, 'b', 1), 3);
        CHECK.eq("d", x.ballEnd(0, 'd', 0), 2);
        CHECK.fails("no second of d", NONE, () -> x.ballEnd(0, 'd', 1));
        CHECK.fails("ten of a", NONE, () -> x.ballEnd(0, 'a', 0));
        x.setBall(16);
        CHECK.fails("one too long", NONE, () -> x.ballEnd(0, 'd', 0));
        CHECK.eq("by the second row", x.ballEnd(0, 'b', 0), 3);
    }

    // "A float of n loops has to be caught n times divided by the limit plus 1, rounded down; the limit is 4 at first."
    // "A float of n loops is caught as often as n divided by the sum of the limit and 1."

    private static void caught() {
        for (int n = 0; n <= 38; n++) {
            Stitchwright x = Told.knit(40, "kbk" + n + "ak[k]");
            CHECK.eq("a float of " + n, x.longest(0, 1), n);
            CHECK.eq("the limit 4 at first, " + n, x.catches(0), n / 5);
            for (int limit = 1; limit <= 20; limit++) {
                x.setFloat(limit);
                CHECK.eq("a float of " + n + " at " + limit, x.catches(0), n / (limit + 1));
            }
        }
        Stitchwright two = Told.knit(12, "kbk4akbk4ak2");
        CHECK.eq("two of 4, each for itself", two.catches(0), 0);
        two.setFloat(3);
        CHECK.eq("each once at 3", two.catches(0), 2);
        Stitchwright rows = Told.knit(7, "kbk5ak", "kbk5ak", "k7");
        CHECK.eq("in two rows", rows.catches(0), 2);
        CHECK.eq("not in the row 0", rows.longest(0, 0), 0);
        Stitchwright most = Told.knit(30, "[f]", "kbk58ak");
        CHECK.eq("the longest there can be", most.longest(0, 2), 58);
        most.setFloat(20);
        CHECK.eq("58 by 21", most.catches(0), 2);
    }

    // "A row of loops made behind one another by stitches of other colours, between two loops of a colour in the way the
    // row is worked, is a float of this colour; loops by h are left out of that."

    private static int longest(int loops, String row) {
        return Told.knit(loops, row).longest(0, 1);
    }

    private static void floats() {
        CHECK.eq("one colour", longest(5, "k5"), 0);
        CHECK.eq("one other loop at the beginning", longest(5, "bkak4"), 0);
        CHECK.eq("one other loop at the end", longest(5, "k4bk"), 0);
        CHECK.eq("one other loop between", longest(3, "kbkak"), 1);
        CHECK.eq("all between the first and the last", longest(10, "kbk8ak"), 8);
        CHECK.eq("not over the end of a round", longest(10, "k2bk6dk2"), 0);
        CHECK.eq("the last of some is the longest", longest(10, "kbkakbk5akk"), 5);
        CHECK.eq("the first of some is the longest", longest(10, "kbk4akbkak3"), 4);
        CHECK.eq("one loop", longest(1, "k"), 0);
        CHECK.eq("no loops", longest(1, "o"), 0);
        CHECK.eq("a colour told twice is no float", longest(4, "bk2bk2"), 0);
        CHECK.eq("a colour of no stitch between is no float", longest(4, "bk2abk2"), 0);
    }

    private static void floatsOfColours() {
        Stitchwright x = Told.knit(6, "kbkdkakbkdk");
        CHECK.eq("two others between, for each of the colours", x.longest(0, 1), 2);
        x.setFloat(1);
        CHECK.eq("three floats of 2", x.catches(0), 3);
        Stitchwright y = Told.knit(4, "kbkakbk");
        CHECK.eq("one between", y.longest(0, 1), 1);
        y.setFloat(1);
        CHECK.eq("two floats of 1", y.catches(0), 0);
        Stitchwright z = Told.knit(7, "kbk2dk3ak");
        z.setFloat(1);
        CHECK.eq("b and d are one float of a", z.catches(0), 2);
        CHECK.eq("of five loops", z.longest(0, 1), 5);
        Stitchwright within = Told.knit(9, "kbkdk5bkak");
        within.setFloat(5);
        CHECK.eq("a float within a float", within.longest(0, 1), 7);
        CHECK.eq("seven by 6", within.catches(0), 1);
        within.setFloat(4);
        CHECK.eq("seven by 5, and five by 5", within.catches(0), 2);
    }

    private static void floatsOfStitches() {
        CHECK.eq("y", longest(2, "kbyak"), 1);
        CHECK.eq("m", longest(2, "kbm2ak"), 2);
        CHECK.eq("f", longest(3, "kbfak"), 2);
        CHECK.eq("t", longest(4, "kbtak"), 1);
        CHECK.eq("x", longest(4, "kbxak"), 2);
        CHECK.eq("o makes none", longest(3, "kboak"), 0);
        CHECK.eq("o beside k", longest(4, "kbokak"), 1);
        CHECK.eq("w", longest(3, "kbwak"), 1);
        CHECK.eq("a float that ends at y", longest(2, "kbkay"), 1);
        CHECK.eq("a float from o on is none", longest(3, "obkak"), 0);
    }

    private static void floatsAndTurns() {
        Stitchwright left = Told.flat(5, "kbk2/");
        CHECK.eq("not up to loops that are left", left.longest(0, 1), 0);
        Stitchwright stay = Told.flat(5, "k4/", "bk2ak2");
        CHECK.eq("not from loops that stay, on the wrong side", stay.longest(0, 2), 0);
        Stitchwright low = Told.flat(5, "k5", "k4/", "bk2ak2");
        CHECK.eq("not from loops that stay, on the right side", low.longest(0, 3), 0);
        Stitchwright both = Told.flat(6, "k5/", "k4/", "bkakbkaky/");
        CHECK.eq("one stays, one is left", Told.stitches(both, 0, 3), "hkkkkyh");
        CHECK.eq("between the worked ones alone", both.longest(0, 3), 1);
        Stitchwright back = Told.flat(6, "k6", "kbk3ak2");
        CHECK.eq("on the wrong side", back.longest(0, 2), 3);
    }

    // "The rows 0 to some row are a braid if each has as many loops, 2 to 8, and each loop but those of the row 0 is
    // made by k, p, l, w, x or z"

    private static void braidLoops() {
        for (int loops = 0; loops <= 40; loops++) {
            Stitchwright x = Told.knit(loops, "[k]");
            if (loops >= 2 && loops <= 8) {
                CHECK.eq(loops + " loops", x.areAlike(0, 0, 0, 0), true);
                CHECK.eq(loops + " loops, knit", x.areAlike(0, 1, 0, 0), true);
            } else {
                CHECK.fails(loops + " loops", UNSUPPORTED, () -> x.areAlike(0, 0, 0, 0));
            }
        }
        Stitchwright x = Told.castOn(8);
        x.setNumber('A', 1, 7);
        CHECK.fails("eight and seven", UNSUPPORTED, () -> x.areAlike(0, 0, 1, 0));
        CHECK.fails("seven and eight", UNSUPPORTED, () -> x.areAlike(1, 0, 0, 0));
        CHECK.eq("eight and eight", x.areAlike(0, 0, 2, 0), true);
        x.setNumber('A', 2, 9);
        CHECK.fails("eight and nine", UNSUPPORTED, () -> x.areAlike(0, 0, 2, 0));
    }

    private static void braidRows() {
        Stitchwright x = Told.knit(4, "kplw", "xz", "k4", "tyk2", "k4");
        for (int row = 0; row <= 3; row++) {
            CHECK.eq("a braid up to the row " + row, x.areAlike(0, row, 0, row), true);
        }
        for (int row = 4; row <= 5; row++) {
            int of = row;
            CHECK.fails("none up to the row " + row, UNSUPPORTED, () -> x.areAlike(0, of, 0, 0));
            CHECK.fails("nor the other one", UNSUPPORTED, () -> x.areAlike(0, 0, 0, of));
        }
        for (String row : new String[] {"ok3y", "yok3", "mok3", "fok2", "ftk", "sfk"}) {
            Stitchwright y = Told.knit(4, row);
            CHECK.eq("as many loops: " + row, y.loops(0, 1), 4);
            CHECK.fails("but no braid: " + row, UNSUPPORTED, () -> y.areAlike(0, 1, 0, 1));
        }
        for (String row : new String[] {"o2k2", "tk2", "k4y", "fk3", "k4m"}) {
            Stitchwright y = Told.knit(4, row);
            CHECK.eq("it closes: " + row, y.closes(0), true);
            CHECK.fails("not as many loops: " + row, UNSUPPORTED, () -> y.areAlike(0, 1, 0, 1));
        }
        Stitchwright held = Told.flat(4, "k3/");
        CHECK.fails("h", UNSUPPORTED, () -> held.areAlike(0, 1, 0, 0));
        Told.replace(held, 1, "k4/");
        CHECK.eq("a turn with none left", held.areAlike(0, 1, 0, 0), true);
    }

    // "Each x or z that is worked is one crossing."

    private static void crossings() {
        CHECK.eq("none", Told.knit(4, "k4").crossings(0), 0);
        CHECK.eq("one x", Told.knit(2, "x").crossings(0), 1);
        CHECK.eq("one z", Told.knit(2, "z").crossings(0), 1);
        CHECK.eq("x beside z", Told.knit(4, "xz").crossings(0), 2);
        CHECK.eq("as often as the count tells", Told.knit(8, "x3z").crossings(0), 4);
        CHECK.eq("none by a count of 0", Told.knit(2, "x0k2").crossings(0), 0);
        CHECK.eq("none in the row 0", Told.castOn(4).crossings(0), 0);
        CHECK.eq("none of a row that does not close", Told.knit(4, "x2", "x").crossings(0), 2);
        CHECK.eq("on the wrong side", Told.flat(5, "kx2", "z2k").crossings(0), 4);
        Stitchwright most = Told.knit(30, "[f]");
        for (int row = 2; row <= 24; row++) {
            Told.add(most, row % 2 == 0 ? "[x]" : "[z]");
        }
        CHECK.eq("30 in each of 23 rows", most.crossings(0), 690);
    }

    // "x is a crossing in which the loop that comes from the lower place lies in front, z one in which it lies behind,
    // whatever the side. Two braids are alike if one can be brought into the other one, ends held, without cutting"

    private static void alike() {
        Stitchwright x = Told.castOn(2);
        x.setFlat(1, true);
        for (String row : new String[] {"x", "x", "z", "z", "z", "x"}) {
            Told.add(x, row);
        }
        int[] twisted = {0, 1, 2, 1, 0, -1, 0};
        for (int row = 0; row <= 6; row++) {
            for (int other = 0; other <= 6; other++) {
                CHECK.eq("round, " + row + " and " + other, x.areAlike(0, row, 2, other), twisted[row] == twisted[other]);
                CHECK.eq("flat, " + row + " and " + other, x.areAlike(1, row, 0, other), twisted[row] == twisted[other]);
            }
        }
        Stitchwright three = Told.knit(3, "xk", "kx", "xk");
        three.setFlat(1, true);
        CHECK.eq("no row", three.areAlike(0, 0, 1, 0), true);
        CHECK.eq("the ends are held: a full turn is not none", Told.knit(2, "x", "x").areAlike(0, 2, 0, 0), false);
        CHECK.eq("on the wrong side the row is worked from the last place on", three.areAlike(0, 2, 1, 2), false);
        Told.replace(three, 2, "xk");
        CHECK.eq("kx on the wrong side crosses the lower two", three.areAlike(0, 0, 1, 0), true);
        Stitchwright most = Told.castOn(8);
        for (int row = 1; row <= 24; row++) {
            Told.add(most, row <= 12 ? row % 2 == 1 ? "x4" : "kx3k" : row % 2 == 1 ? "kz3k" : "z4");
        }
        CHECK.eq("12 rows and their reverse", most.areAlike(0, 24, 0, 0), true);
        CHECK.eq("but for the last one", most.areAlike(0, 23, 0, 1), true);
        CHECK.eq("not without it", most.areAlike(0, 23, 0, 0), false);
    }
}
