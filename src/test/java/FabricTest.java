import java.util.NoSuchElementException;

/** The promises 9 to 22: the fabric. */
public final class FabricTest {
    private static final Check CHECK = new Check("FabricTest");
    private static final Class<IndexOutOfBoundsException> INDEX = IndexOutOfBoundsException.class;
    private static final Class<NoSuchElementException> NONE = NoSuchElementException.class;
    private static final Class<UnsupportedOperationException> UNSUPPORTED = UnsupportedOperationException.class;

    public static void main(String[] args) {
        rowsAndClosing();
        mostLoops();
        repeats();
        repeatsToTheLast();
        deepRepeats();
        loops();
        stitches();
        sides();
        turning();
        turningTwice();
        colours();
        parents();
        childrenAndBound();
        unravelling();
        roots();
        crossings();
        braids();
        noBraids();
        noSuchLoops();
        CHECK.end();
    }

    private static boolean closes(int loops, String... rows) {
        return Told.knit(loops, rows).closes(0);
    }

    private static void rowsAndClosing() {
        CHECK.eq("no row closes", Told.castOn(1).closes(0), true);
        CHECK.eq("nothing cast on", Told.castOn(0).closes(0), false);
        CHECK.eq("nothing to work on", closes(0, "y"), false);
        CHECK.eq("nothing done with nothing", closes(0, "k0"), false);
        CHECK.eq("just enough", closes(3, "k3"), true);
        CHECK.eq("one too few", closes(2, "k3"), false);
        CHECK.eq("one left over", closes(4, "k3"), false);
        CHECK.eq("t takes two", closes(1, "t"), false);
        CHECK.eq("x takes two", closes(3, "x2"), false);
        CHECK.eq("all bound off", closes(3, "[o]"), true);
        CHECK.eq("nothing behind that", closes(3, "[o]", "y"), false);
        CHECK.eq("a turn in the round", closes(3, "k2/"), false);
        CHECK.eq("a turn in the round with none left", closes(3, "k3/"), false);
        Stitchwright flat = Told.flat(3, "k3/", "k3", "k0/", "k0");
        CHECK.eq("flat turns", flat.closes(0), true);
        CHECK.eq("rows", flat.rows(0), 4);
        Stitchwright x = Told.knit(3, "k3", "k2", "k3");
        CHECK.eq("up to the row that does not close", x.rows(0), 1);
        CHECK.eq("it does not close", x.closes(0), false);
        Told.replace(x, 2, "p3");
        CHECK.eq("now all rows", x.rows(0), 3);
        CHECK.eq("now it closes", x.closes(0), true);
        CHECK.fails("size 3", INDEX, () -> x.closes(3));
        CHECK.fails("size -1", INDEX, () -> x.closes(-1));
        CHECK.fails("size 3 of rows", INDEX, () -> x.rows(3));
        CHECK.fails("size -1 of rows", INDEX, () -> x.rows(-1));
    }

    private static void mostLoops() {
        CHECK.eq("60 loops", closes(30, "[f]"), true);
        CHECK.eq("61 loops", closes(30, "[f]y"), false);
        CHECK.eq("61 loops in the middle", closes(30, "y[f]"), false);
        CHECK.eq("60 stay", closes(30, "[f]", "[k]", "[x]"), true);
        CHECK.eq("many more", closes(2, "[k]((((y99)99)99)99)99"), false);
        Stitchwright x = Told.flat(40, "y20/", "k20");
        CHECK.eq("60 with those that stay", x.rows(0), 2);
        Told.replace(x, 1, "y21/");
        CHECK.eq("61 with those that stay", x.rows(0), 0);
    }

    private static void repeats() {
        Stitchwright x = Told.knit(16, "k2(py2(ot)2)2");
        CHECK.eq("nested repeats", Told.stitches(x, 0, 1), "kkpyyttpyytt");
        CHECK.eq("what they take", Told.parents(x, 0, 1), "0 1 2 - - 4+5 7+8 9 - - 11+12 14+15");
        Stitchwright none = Told.knit(2, "k0(p3)0k2");
        CHECK.eq("none at all", Told.stitches(none, 0, 1), "kk");
        CHECK.eq("none within brackets", Told.stitches(Told.knit(5, "((k)0p)2(y0(k)0)2(l)3"), 0, 1), "pplll");
        CHECK.eq("brackets without a count", Told.stitches(Told.knit(4, "(kp)((l)w)"), 0, 1), "kplk");
        Stitchwright two = Told.knit(12, "k12");
        CHECK.eq("two digits", two.loops(0, 1), 12);
        Stitchwright leading = Told.knit(3, "k03");
        CHECK.eq("a 0 ahead", leading.loops(0, 1), 3);
        Stitchwright colour = Told.knit(3, "k(b)0kdk");
        CHECK.eq("a colour that is not worked", Told.colours(colour, 0, 1), "aad");
    }

    private static void repeatsToTheLast() {
        CHECK.eq("to the last but one", Told.stitches(Told.knit(6, "[kp]1[l]"), 0, 1), "kpkpll");
        CHECK.eq("just fitting", Told.stitches(Told.knit(6, "[kp]2[l]"), 0, 1), "kpkpll");
        CHECK.eq("more than are left", Told.stitches(Told.knit(6, "[kp]7[l]"), 0, 1), "llllll");
        CHECK.eq("as many as are left", Told.stitches(Told.knit(6, "[kp]6[l]"), 0, 1), "llllll");
        CHECK.eq("they take none", Told.stitches(Told.knit(2, "[yb]k[p]"), 0, 1), "kp");
        CHECK.eq("they take none by counts", Told.stitches(Told.knit(2, "[k0y]k[p]"), 0, 1), "kp");
        CHECK.eq("a count by which they take", Told.stitches(Told.knit(7, "[(kp)2m]1[l]"), 0, 1), "kpkpmlll");
        CHECK.eq("brackets beside one another in [ ]", Told.stitches(Told.knit(7, "[(k)2(p)]1[l]"), 0, 1), "kkpkkpl");
        CHECK.eq("brackets within brackets in [ ]", Told.stitches(Told.knit(9, "[((k)2p)3][l]"), 0, 1), "kkpkkpkkp");
        CHECK.eq("they do not fit", Told.stitches(Told.knit(8, "[((k)2p)3][l]"), 0, 1), "llllllll");
        CHECK.eq("left by what came before", Told.stitches(Told.knit(7, "kt[p]2s"), 0, 1), "ktpps");
        Stitchwright letters = Told.knit(9, "[kB]C[p]");
        letters.setNumber('B', 0, 2);
        letters.setNumber('C', 0, 3);
        CHECK.eq("letters in and behind [ ]", Told.stitches(letters, 0, 1), "kkkkkkppp");
        CHECK.eq("a letter of 0 in [ ]", Told.stitches(letters, 1, 1), "ppppppppp");
        CHECK.eq("colours of [ ]", Told.colours(Told.knit(5, "[kbkd]1[k]"), 0, 1), "abdbd");
    }

    private static void deepRepeats() {
        CHECK.eq("far too many taken once", Told.stitches(Told.knit(2, "[(((t99t99t99t99)99)99)99][p]"), 0, 1), "pp");
        String wide = "[(((t99t99t99t99t99t99t99t99t99t99t99t99t99)99)99)99]";
        CHECK.eq("more than an int holds", Told.stitches(Told.knit(1, wide + "k"), 0, 1), "k");
        CHECK.eq("many times nothing", closes(2, "((((bk0)99)99)99)99[k]"), true);
        CHECK.eq("its colour", Told.colours(Told.knit(2, "((((bk0)99)99)99)99[k]"), 0, 1), "bb");
        CHECK.eq("too many in deep brackets", closes(40, "((((k)99)99)99)99"), false);
        CHECK.eq("just so many in deep brackets", closes(16, "((((k)2)2)2)2"), true);
        CHECK.eq("[ with three (", closes(16, "[(((k)2)2)2]"), true);
    }

    private static void loops() {
        Stitchwright x = Told.knit(5, "ymk3fo", "[k]");
        CHECK.eq("row 0", x.loops(0, 0), 5);
        CHECK.eq("row 1", x.loops(0, 1), 7);
        CHECK.eq("row 2", x.loops(0, 2), 7);
        CHECK.fails("row 3", NONE, () -> x.loops(0, 3));
        CHECK.fails("row -1", NONE, () -> x.loops(0, -1));
        CHECK.fails("size 3", INDEX, () -> x.loops(3, 0));
        CHECK.fails("size -1 and row 9", INDEX, () -> x.loops(-1, 9));
    }

    private static void stitches() {
        Stitchwright x = Told.knit(13, "kplymftsxzo", "w4[w]");
        CHECK.eq("cast on", Told.stitches(x, 0, 0), "c".repeat(13));
        CHECK.eq("each stitch", Told.stitches(x, 0, 1), "kplymfftsxxzz");
        CHECK.eq("w", Told.stitches(x, 0, 2), "kpkkkkkkkkkkk");
        Stitchwright again = Told.knit(2, "w2", "kp", "w2", "w2");
        CHECK.eq("w over cast-on loops", Told.stitches(again, 0, 1), "kk");
        CHECK.eq("w over k and p", Told.stitches(again, 0, 3), "kp");
        CHECK.eq("w over w", Told.stitches(again, 0, 4), "kp");
        Stitchwright flat = Told.flat(3, "p2/", "w2", "w3");
        CHECK.eq("w over h, and over p by w", Told.stitches(flat, 0, 3), "ppk");
        Stitchwright crossed = Told.knit(3, "p3", "xl", "w3");
        CHECK.eq("w over what was p before", Told.stitches(crossed, 0, 3), "kkk");
    }

    private static void sides() {
        Stitchwright x = Told.flat(4, "kpk2", "kpkp", "kptl");
        CHECK.eq("a row of the right side", Told.stitches(x, 0, 1), "kpkk");
        CHECK.eq("it is seen as it is", Told.seen(x, 0, 1), "kpkk");
        CHECK.eq("a row of the wrong side", Told.stitches(x, 0, 2), "pkpk");
        CHECK.eq("it is seen the other way", Told.seen(x, 0, 2), "kpkp");
        Told.replace(x, 3, "k2t");
        CHECK.eq("the right side again", Told.stitches(x, 0, 3), "kkt");
        x.setFlat(0, false);
        CHECK.eq("round", Told.stitches(x, 0, 2), "kpkp");
        CHECK.eq("it is seen as it is in the round", Told.seen(x, 0, 2), "kpkp");
        CHECK.eq("cast on", Told.seen(x, 1, 0), "cccc");
        Stitchwright all = Told.flat(11, "[k]", "lymftsxzo");
        CHECK.eq("others on the wrong side", Told.seen(all, 0, 2), Told.stitches(all, 0, 2));
        CHECK.eq("in the way they are worked", Told.stitches(all, 0, 2), "zzxxstffmyl");
        CHECK.eq("the loops they come of", Told.parents(all, 0, 2), "2 1 4 3 6+5 8+7 9 9 - - 10");
        Stitchwright held = Told.flat(3, "k2/", "k/");
        CHECK.eq("h", Told.seen(held, 0, 2), "hph");
    }

    private static void turning() {
        Stitchwright x = Told.flat(6, "bk4/", "dp3/", "[l]");
        CHECK.eq("left on the right side", Told.stitches(x, 0, 1), "kkkkhh");
        CHECK.eq("their colours", Told.colours(x, 0, 1), "bbbbaa");
        CHECK.eq("two stay, one is left", Told.stitches(x, 0, 2), "hppphh");
        CHECK.eq("colours then", Told.colours(x, 0, 2), "bdddaa");
        CHECK.eq("one stays", Told.stitches(x, 0, 3), "hlllll");
        CHECK.eq("its colour", Told.colours(x, 0, 3), "baaaaa");
        CHECK.eq("each of itself", Told.parents(x, 0, 3), "0 1 2 3 4 5");
        CHECK.eq("each of itself on the wrong side", Told.parents(x, 0, 2), "0 1 2 3 4 5");
        CHECK.eq("h has one parent", Check.answer(() -> x.parent(0, 1, 5, 1)), "NoSuchElementException");
        Told.add(x, "[k]");
        CHECK.eq("no turn, none stay", Told.stitches(x, 0, 4), "kkkkkk");
    }

    private static void turningTwice() {
        Stitchwright x = Told.flat(6, "[k]2/", "[p]3/", "[k]");
        CHECK.eq("left for [ ], turned", Told.stitches(x, 0, 1), "kkkkhh");
        CHECK.eq("those that stay are not left for [ ]", Told.stitches(x, 0, 2), "hhhphh");
        CHECK.eq("three stay", Told.stitches(x, 0, 3), "hhhkkk");
        Stitchwright whole = Told.flat(3, "k0/", "k0/", "y", "p");
        CHECK.eq("all stay", Told.stitches(whole, 0, 1), "hhh");
        CHECK.eq("all stay by the turn before", Told.stitches(whole, 0, 2), "hhh");
        CHECK.eq("none was left by the second turn", whole.rows(0), 2);
        Told.replace(whole, 3, "yk3");
        CHECK.eq("so all are worked", Told.stitches(whole, 0, 3), "ykkk");
        Stitchwright more = Told.flat(3, "m2k/", "p3");
        CHECK.eq("made and left", Told.stitches(more, 0, 1), "mmkhh");
        CHECK.eq("worked over what was made", Told.stitches(more, 0, 2), "ppphh");
        CHECK.eq("too few behind those that stay", Told.flat(3, "k/", "k2").rows(0), 1);
        CHECK.eq("too many behind those that stay", Told.flat(3, "k2/", "k").rows(0), 1);
    }

    private static void colours() {
        Stitchwright x = Told.knit(6, "kbkadkbk[k]", "[k]");
        CHECK.eq("cast on", Told.colours(x, 0, 0), "aaaaaa");
        CHECK.eq("in their order", Told.colours(x, 0, 1), "abdbbb");
        CHECK.eq("a row begins with a", Told.colours(x, 0, 2), "aaaaaa");
        Stitchwright back = Told.flat(3, "k3", "kbkdk");
        CHECK.eq("on the wrong side", Told.colours(back, 0, 2), "dba");
        CHECK.eq("inside brackets and behind", Told.colours(Told.knit(4, "(bk)2dkk"), 0, 1), "bbdd");
        CHECK.eq("the other way round", Told.colours(Told.knit(4, "(kb)2kk"), 0, 1), "abbb");
    }

    private static void parents() {
        Stitchwright x = Told.knit(9, "kofytsxm");
        CHECK.eq("in the round", Told.parents(x, 0, 1), "0 2 2 - 3+4 5+6 8 7 -");
        CHECK.fails("cast on", NONE, () -> x.parent(0, 0, 0, 0));
        CHECK.fails("a second parent", NONE, () -> x.parent(0, 1, 0, 1));
        CHECK.fails("a third parent", NONE, () -> x.parent(0, 1, 4, 2));
        CHECK.fails("the parent -1", NONE, () -> x.parent(0, 1, 4, -1));
        CHECK.fails("no loop, no parent", INDEX, () -> x.parent(0, 1, 9, 5));
        Stitchwright flat = Told.flat(9, "[k]", "kofytszm");
        CHECK.eq("on the wrong side", Told.parents(flat, 0, 2), "- 1 0 3+2 5+4 - 6 6 8");
        CHECK.eq("first the one taken first", flat.parent(0, 2, 3, 0), 3);
        CHECK.eq("then the other", flat.parent(0, 2, 3, 1), 2);
    }

    private static void childrenAndBound() {
        Stitchwright x = Told.knit(6, "kofyto", "[k]");
        CHECK.eq("k", x.children(0, 0, 0), 1);
        CHECK.eq("o", x.children(0, 0, 1), 0);
        CHECK.eq("f", x.children(0, 0, 2), 2);
        CHECK.eq("t first", x.children(0, 0, 3), 1);
        CHECK.eq("t second", x.children(0, 0, 4), 1);
        CHECK.eq("bound", x.isBound(0, 0, 1), true);
        CHECK.eq("bound last", x.isBound(0, 0, 5), true);
        CHECK.eq("not bound", x.isBound(0, 0, 0), false);
        CHECK.eq("the last row has none", x.children(0, 2, 0), 0);
        CHECK.eq("nor is it bound", x.isBound(0, 2, 0), false);
        Told.add(x, "ko");
        CHECK.eq("a row that does not close has none", x.children(0, 2, 0), 0);
        CHECK.eq("and binds none off", x.isBound(0, 2, 1), false);
        Told.replace(x, 3, "ko[k]");
        CHECK.eq("now it does", x.isBound(0, 2, 1), true);
        Told.replace(x, 3, "kk[k]");
        CHECK.eq("now it does not", x.isBound(0, 2, 1), false);
        Stitchwright flat = Told.flat(3, "k3", "ok2");
        CHECK.eq("the highest first on the wrong side", flat.isBound(0, 1, 2), true);
        CHECK.eq("not the lowest", flat.isBound(0, 1, 0), false);
        Stitchwright held = Told.flat(2, "k/", "k");
        CHECK.eq("h comes of it", held.children(0, 0, 1), 1);
    }

    private static void unravelling() {
        Stitchwright x = Told.knit(6, "[k]", "t[k]2s", "yko2k");
        CHECK.eq("made of none", x.unravel(0, 0), 1);
        CHECK.eq("down both", x.unravel(0, 1), 6);
        CHECK.eq("down two more", x.unravel(0, 2), 6);
        CHECK.eq("itself", x.falls(0, 1, 3, 1), true);
        CHECK.eq("its neighbour", x.falls(0, 1, 3, 0), false);
        CHECK.eq("its first", x.falls(0, 1, 0, 0), true);
        CHECK.eq("its second", x.falls(0, 1, 1, 1), true);
        CHECK.eq("another one", x.falls(0, 1, 1, 2), false);
        CHECK.eq("one that is bound off", x.falls(0, 1, 2, 1), false);
        CHECK.eq("one below what is bound off", x.falls(0, 1, 1, 2), false);
        Stitchwright f = Told.knit(2, "fk", "tk");
        CHECK.eq("both that come of it", f.unravel(0, 0), 4);
        Told.replace(f, 2, "kkk");
        CHECK.eq("one of both", f.unravel(0, 0), 2);
        CHECK.eq("it stays", f.falls(0, 0, 0, 0), false);
        CHECK.eq("on the row 0 alone", Told.castOn(2).unravel(0, 1), 1);
        Stitchwright flat = Told.flat(3, "k2/");
        CHECK.eq("h falls with what it was", flat.unravel(0, 2), 2);
        CHECK.fails("no such loop", INDEX, () -> x.unravel(0, 3));
        CHECK.fails("the loop -1", INDEX, () -> x.unravel(0, -1));
        CHECK.fails("size 3", INDEX, () -> x.unravel(3, 0));
        CHECK.fails("nothing in the last row", INDEX, () -> Told.knit(2, "o2").unravel(0, 0));
        CHECK.fails("falls: no such dropped one", INDEX, () -> x.falls(0, 3, 0, 0));
        CHECK.fails("falls: no such loop", INDEX, () -> x.falls(0, 0, 0, 6));
        CHECK.fails("falls: no such row", INDEX, () -> x.falls(0, 0, 4, 0));
        CHECK.fails("falls: size -1", INDEX, () -> x.falls(-1, 0, 0, 0));
    }

    private static void roots() {
        Stitchwright x = Told.knit(7, "xkszy", "[k]");
        CHECK.eq("cast on", x.rootOf(0, 0, 5), 5);
        CHECK.eq("crossed", x.rootOf(0, 2, 0), 1);
        CHECK.eq("crossed too", x.rootOf(0, 2, 1), 0);
        CHECK.eq("over it", x.rootOf(0, 1, 2), 2);
        CHECK.eq("over s", x.rootOf(0, 2, 3), 3);
        CHECK.eq("behind s", x.rootOf(0, 2, 4), 6);
        CHECK.fails("y over it", NONE, () -> x.rootOf(0, 2, 6));
        Stitchwright y = Told.knit(4, "ytmt", "k2pk", "tt");
        CHECK.eq("first parents", y.rootOf(0, 2, 1), 0);
        CHECK.fails("made of none", NONE, () -> y.rootOf(0, 1, 0));
        CHECK.fails("over first parents alone", NONE, () -> y.rootOf(0, 3, 0));
        CHECK.fails("m too", NONE, () -> y.rootOf(0, 3, 1));
        Stitchwright flat = Told.flat(4, "[k]", "t2");
        CHECK.eq("the first of t on the wrong side", flat.rootOf(0, 2, 0), 1);
        CHECK.fails("size 3", INDEX, () -> y.rootOf(3, 0, 0));
        CHECK.fails("no loop", INDEX, () -> y.rootOf(0, 0, 4));
    }

    private static void crossings() {
        Stitchwright x = Told.knit(6, "x2z", "kx2k", "kxkx");
        CHECK.eq("each x and z", x.crossings(0), 7);
        Told.add(x, "x3k");
        CHECK.eq("none of a row that does not close", x.crossings(0), 7);
        CHECK.eq("none", Told.castOn(3).crossings(1), 0);
        CHECK.fails("size 3", INDEX, () -> x.crossings(3));
        CHECK.fails("size -1", INDEX, () -> x.crossings(-1));
    }

    private static void braids() {
        Stitchwright x = Told.knit(3, "xk", "kx", "xk", "zk", "kz", "zk");
        CHECK.eq("undone by z", x.areAlike(0, 6, 1, 0), true);
        CHECK.eq("one z", x.areAlike(0, 4, 2, 2), true);
        CHECK.eq("not the same", x.areAlike(0, 1, 0, 2), false);
        CHECK.eq("nor mirrored", x.areAlike(0, 3, 0, 6), false);
        Stitchwright y = Told.knit(3, "xk", "kx", "xk", "kz", "zk", "kz", "zk", "kz", "xk", "kx", "zk", "kz");
        CHECK.eq("three crossings the other way round", y.areAlike(0, 6, 0, 0), true);
        CHECK.eq("z two, x two in another order", y.areAlike(0, 12, 0, 6), false);
        Stitchwright order = Told.knit(2, "x", "z", "z", "x", "k2", "x", "x");
        CHECK.eq("k does nothing", order.areAlike(0, 5, 0, 4), true);
        CHECK.eq("twice is not nothing", order.areAlike(0, 7, 0, 5), false);
        CHECK.eq("xz", order.areAlike(0, 2, 0, 0), true);
        CHECK.eq("zx", order.areAlike(0, 4, 0, 2), true);
        Stitchwright sides = Told.knit(2, "x", "x", "z", "z");
        sides.setFlat(1, true);
        CHECK.eq("whatever the side", sides.areAlike(0, 4, 1, 4), true);
        CHECK.eq("two alike", sides.areAlike(0, 2, 1, 2), true);
        CHECK.eq("x is not z", sides.areAlike(0, 1, 1, 3), true);
        Stitchwright far = Told.knit(8, "k6x", "xk6", "k6z", "zk6", "x4", "kz3k", "z4", "kx3k");
        CHECK.eq("far ones pass one another", far.areAlike(0, 4, 0, 0), true);
        CHECK.eq("a tangle is not", far.areAlike(0, 8, 0, 0), false);
        Stitchwright works = Told.knit(3, "lx", "wz", "plw");
        CHECK.eq("by l, w and p too", works.areAlike(0, 3, 0, 3), true);
    }

    private static void noBraids() {
        for (String row : new String[] {"t2y2", "yt2y", "fkt", "skf", "ok3", "yk3o", "k3oy", "mk3o", "fot", "k2fo"}) {
            Stitchwright x = Told.knit(4, row);
            CHECK.eq("closes: " + row, x.closes(0), true);
            CHECK.fails("no braid: " + row, UNSUPPORTED, () -> x.areAlike(0, 1, 0, 0));
            CHECK.fails("no braid, other: " + row, UNSUPPORTED, () -> x.areAlike(0, 0, 0, 1));
            CHECK.fails("no braid twice: " + row, UNSUPPORTED, () -> x.areAlike(0, 1, 0, 1));
            CHECK.eq("the row 0 is one", x.areAlike(0, 0, 1, 0), true);
        }
        Stitchwright held = Told.flat(4, "xk/");
        CHECK.fails("h", UNSUPPORTED, () -> held.areAlike(0, 1, 0, 1));
        Stitchwright turned = Told.flat(4, "xkk/");
        CHECK.eq("a turn with none left", turned.areAlike(0, 1, 0, 1), true);
        Stitchwright f = Told.knit(4, "k2s", "fk2", "fk3", "k3t", "k4");
        CHECK.fails("fewer loops", UNSUPPORTED, () -> f.areAlike(0, 1, 0, 1));
        CHECK.fails("as many again", UNSUPPORTED, () -> f.areAlike(0, 2, 0, 2));
        CHECK.fails("and behind it", UNSUPPORTED, () -> f.areAlike(0, 5, 0, 5));
        CHECK.fails("one loop", UNSUPPORTED, () -> Told.castOn(1).areAlike(0, 0, 0, 0));
        CHECK.fails("nine loops", UNSUPPORTED, () -> Told.castOn(9).areAlike(0, 0, 0, 0));
        CHECK.eq("two loops", Told.castOn(2).areAlike(0, 0, 0, 0), true);
        CHECK.eq("eight loops", Told.castOn(8).areAlike(0, 0, 0, 0), true);
        Stitchwright x = Told.castOn(4);
        x.setNumber('A', 1, 5);
        CHECK.fails("not as many", UNSUPPORTED, () -> x.areAlike(0, 0, 1, 0));
        CHECK.fails("size 3", INDEX, () -> x.areAlike(3, 9, 0, 0));
        CHECK.fails("another size 3", INDEX, () -> x.areAlike(0, 9, 3, 0));
        CHECK.fails("no row", NONE, () -> x.areAlike(0, 1, 1, 0));
        CHECK.fails("no other row", NONE, () -> x.areAlike(0, 0, 1, 1));
        CHECK.fails("row -1", NONE, () -> x.areAlike(0, -1, 1, 0));
    }

    private static void noSuchLoops() {
        Stitchwright x = Told.knit(3, "k3", "k2");
        int[][] wrong = {{3, 0, 0}, {-1, 0, 0}, {0, 2, 0}, {0, -1, 0}, {0, 0, 3}, {0, 1, 3}, {0, 1, -1},
            {0, Integer.MAX_VALUE, 0}, {0, 0, Integer.MIN_VALUE}, {Integer.MIN_VALUE, 0, 0}};
        for (int[] at : wrong) {
            CHECK.fails("stitch", INDEX, () -> x.stitch(at[0], at[1], at[2]));
            CHECK.fails("seen", INDEX, () -> x.seen(at[0], at[1], at[2]));
            CHECK.fails("colourOf", INDEX, () -> x.colourOf(at[0], at[1], at[2]));
            CHECK.fails("parent", INDEX, () -> x.parent(at[0], at[1], at[2], 0));
            CHECK.fails("children", INDEX, () -> x.children(at[0], at[1], at[2]));
            CHECK.fails("isBound", INDEX, () -> x.isBound(at[0], at[1], at[2]));
            CHECK.fails("rootOf", INDEX, () -> x.rootOf(at[0], at[1], at[2]));
            CHECK.fails("falls", INDEX, () -> x.falls(at[0], 0, at[1], at[2]));
            CHECK.fails("mark", INDEX, () -> x.mark(at[0], at[1], at[2]));
        }
    }
}
