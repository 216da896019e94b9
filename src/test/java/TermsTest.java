import java.util.NoSuchElementException;

/**
 * The section "Terms" and its clarifications, sentence by sentence: for each bound that one of them
 * names, the last value that is allowed and the first one that is not, none at all, and the most.
 */
public final class TermsTest {
    private static final Check CHECK = new Check("TermsTest");
    private static final Class<IllegalStateException> STATE = IllegalStateException.class;
    private static final Class<IndexOutOfBoundsException> INDEX = IndexOutOfBoundsException.class;
    private static final Class<NoSuchElementException> NONE = NoSuchElementException.class;
    private static final String STITCHES = "kplwymftsxzo";
    private static final int[] TAKES = {1, 1, 1, 1, 0, 0, 1, 2, 2, 2, 2, 1};
    private static final int[] MAKES = {1, 1, 1, 1, 1, 1, 2, 1, 1, 2, 2, 0};
    private static final int[] YARN = {3, 3, 3, 3, 2, 3, 6, 4, 4, 10, 10, 2};

    public static void main(String[] args) {
        sixtySigns();
        oneItemOrMore();
        turnAtTheEnd();
        kindsOfItems();
        countsAndNumbers();
        leftOut();
        fourDeep();
        squareInNoOther();
        shutWhatIsOpen();
        sizesSideBySide();
        castOn();
        sidesOfRows();
        takesAndMakes();
        whatComesOfWhat();
        purlStays();
        counts();
        roundCounts();
        fits();
        takenOnce();
        coloursOfRows();
        turning();
        behindATurn();
        turnsFillARow();
        turnedInTheRound();
        CHECK.end();
    }

    private static void isRow(String text) {
        CHECK.eq("a row: " + text, Told.fault(text), -1);
    }

    private static void faulty(String text, int place) {
        CHECK.eq("no row: " + text, Told.fault(text), place);
    }

    /** A text that only ends too early: its length is told. */
    private static void early(String text) {
        faulty(text, text.length());
    }

    // "A row is told by a text of at most 60 signs, typed into a buffer: one item or more behind one another, and / at
    // its end perhaps."

    private static void sixtySigns() {
        Stitchwright x = Told.knit(30, "[f]", "k".repeat(59) + "p");
        CHECK.eq("a row of 60 signs is worked to its last one", x.stitch(0, 2, 59), 'p');
        Told.add(x, "k".repeat(59) + "/");
        CHECK.eq("in a round size it does not close by its sign 60", x.rows(0), 2);
        x.setFlat(0, true);
        CHECK.eq("in a flat one it does", x.rows(0), 3);
        CHECK.eq("and leaves the last loop", x.stitch(0, 3, 59), 'h');
        Stitchwright full = Told.empty();
        for (int sign = 1; sign <= 60; sign++) {
            CHECK.eq("sign " + sign, full.type('y'), sign);
        }
        CHECK.fails("sign 61", STATE, () -> full.type('y'));
        CHECK.eq("60 signs are a row", full.addRow(), 1);
        CHECK.eq("an empty buffer takes signs again", full.type('y'), 1);
        CHECK.eq("60 signs that end too early", Told.fault("k".repeat(59) + "("), 60);
        CHECK.eq("60 signs, the last one faulty", Told.fault("k".repeat(59) + ")"), 59);
        CHECK.eq("59 signs in brackets, shut by the sign 60", Told.fault("(" + "k".repeat(58) + ")"), -1);
        CHECK.eq("60 signs, brackets open", Told.fault("(" + "k".repeat(59)), 60);
    }

    private static void oneItemOrMore() {
        early("");
        for (char stitch : STITCHES.toCharArray()) {
            isRow("" + stitch);
            isRow("k" + stitch);
            isRow(stitch + "b");
        }
        isRow("kplwymftsxzo");
        isRow("b");
        isRow("bdab");
        isRow("(k)");
        isRow("[k]");
        isRow("(k)(k)[k][k](k)");
    }

    private static void turnAtTheEnd() {
        for (String item : new String[] {"k", "k2", "kA", "b", "(k)", "(k)9", "[k]", "[k]D", "kp"}) {
            isRow(item + "/");
            for (char sign : "kb([2A)]/".toCharArray()) {
                faulty(item + "/" + sign, item.length() + 1);
            }
        }
        faulty("/", 0);
        faulty("/k", 0);
        faulty("(/k)", 1);
        faulty("(k/)", 2);
        faulty("[k/]", 2);
        faulty("((k)/)", 4);
    }

    // "An item is a stitch with a count perhaps, a colour, or ( items ) with a count perhaps, or [ items ] with a
    // number perhaps."

    private static void kindsOfItems() {
        for (char colour : "abd".toCharArray()) {
            isRow("" + colour);
            isRow("(" + colour + ")2");
            isRow("[" + colour + "]2");
            for (char sign : "019ABCD".toCharArray()) {
                faulty("" + colour + sign, 1);
                faulty("k" + colour + sign, 2);
                faulty("(k" + colour + sign, 3);
            }
        }
        for (char sign : "019ABCD".toCharArray()) {
            faulty("" + sign, 0);
            faulty("(" + sign, 1);
            faulty("[" + sign, 1);
            faulty("k((" + sign, 3);
        }
        early("(");
        early("[");
        faulty("()", 1);
        faulty("[]", 1);
        faulty("k()", 2);
        faulty("(k)()", 4);
        faulty("([", 1);
    }

    // "A count or number is one or two digits, or one of the letters A to D; a count is 1 and a number 0 if it is left
    // out."

    private static void countsAndNumbers() {
        for (String text : new String[] {"k", "o", "x", "m", "(k)", "[k]", "((k))", "[(k)2]", "k2p"}) {
            counted(text, "");
        }
        for (String text : new String[] {"(kk", "[k", "((p(l", "[(x)", "((w)"}) {
            counted(text, "early");
        }
    }

    /** A text with each kind of count or number behind it; it ends too early perhaps. */
    private static void counted(String text, String end) {
        for (String count : new String[] {"", "0", "1", "9", "00", "01", "10", "60", "99", "A", "B", "C", "D"}) {
            faulty(text + count, end.isEmpty() ? -1 : text.length() + count.length());
        }
        for (String count : new String[] {"000", "100", "999", "99A", "01D"}) {
            faulty(text + count, text.length() + 2);
        }
        for (String count : new String[] {"AA", "A0", "D1", "0A", "9D", "AB1"}) {
            faulty(text + count, text.length() + 1);
        }
    }

    private static String work(int loops, String row) {
        Stitchwright x = Told.knit(loops, row);
        return x.closes(0) ? Told.stitches(x, 0, 1) : "does not close";
    }

    private static void leftOut() {
        CHECK.eq("k is k1", work(1, "k"), work(1, "k1"));
        CHECK.eq("and no k0", work(1, "k0"), "does not close");
        CHECK.eq("( ) is ( )1", work(2, "(kp)"), "kp");
        CHECK.eq("and no ( )2", work(4, "(kp)"), "does not close");
        CHECK.eq("[ ] is [ ]0", work(4, "[kp]"), "kpkp");
        CHECK.eq("[ ]0", work(4, "[kp]0"), "kpkp");
        CHECK.eq("and no [ ]1", work(4, "[kp]1"), "does not close");
        CHECK.eq("the second digit is the lower one", work(12, "k12"), "k".repeat(12));
        CHECK.eq("and not the higher one", work(21, "k12"), "does not close");
        CHECK.eq("a number of two digits", work(13, "[p]12[l]"), "p" + "l".repeat(12));
        CHECK.eq("a count of ( ) of two digits", work(11, "(p)11"), "p".repeat(11));
    }

    // "Brackets stand within one another at most 4 deep; [ stands in no other bracket." "A [ counts among the 4
    // brackets that stand in one another."

    private static void fourDeep() {
        isRow("(k)");
        isRow("((k))");
        isRow("(((k)))");
        isRow("((((k))))");
        faulty("(((((k)))))", 4);
        isRow("[k]");
        isRow("[(k)]");
        isRow("[((k))]");
        isRow("[(((k)))]");
        faulty("[((((k))))]", 4);
        isRow("((((k))))((((p))))[(((l)))](((k)))");
        isRow("(((k(p)(l))))");
        faulty("(((k(p(l)))))", 6);
        isRow("((((k)2p)A(l)b)99)");
        early("((((k)(");
        faulty("((((k)((", 7);
        early("[(k)(k)((k)((k");
        faulty("[(k)(k)((k)(((k", 13);
        CHECK.eq("four deep are worked", work(16, "((((k)2)2)2)2"), "k".repeat(16));
        CHECK.eq("[ with three is worked", work(17, "[(((k)2)2)2]1p"), "k".repeat(16) + "p");
    }

    private static void squareInNoOther() {
        faulty("([k])", 1);
        faulty("(([k]))", 2);
        faulty("((([k])))", 3);
        faulty("((((k[", 5);
        faulty("[[k]]", 1);
        faulty("[k[p]]", 2);
        faulty("[([k])]", 2);
        faulty("[(k)[p]]", 4);
        isRow("(k)[p]");
        isRow("[k][p]");
        isRow("[k](p)[l]1");
    }

    private static void shutWhatIsOpen() {
        faulty(")", 0);
        faulty("]", 0);
        faulty("k)", 1);
        faulty("k]", 1);
        faulty("(k]", 2);
        faulty("[k)", 2);
        faulty("[(k]", 3);
        faulty("(k))", 3);
        faulty("[k]]", 3);
        faulty("[(k))", 4);
        early("(k");
        early("((k)");
        early("[k");
        early("[(k)");
        early("[(k)2p3");
        early("(((((".substring(1));
        early("k2(p3");
    }

    // "There are the sizes 0 to 2, side by side. Each of the letters A to D means a number for each size, 0 at first.
    // At the beginning, for each size, as many loops are cast on as A means."

    private static void sizesSideBySide() {
        Stitchwright x = Told.empty();
        for (int size = 0; size < 3; size++) {
            for (char letter : "ABCD".toCharArray()) {
                CHECK.eq("0 at first", x.setNumber(letter, size, 10 * size + letter - 'A' + 1), 0);
            }
        }
        for (int size = 0; size < 3; size++) {
            for (char letter : "ABCD".toCharArray()) {
                CHECK.eq("a number of its own", x.setNumber(letter, size, 0), 10 * size + letter - 'A' + 1);
            }
        }
        Stitchwright y = Told.castOn(4);
        Told.add(y, "kBpC[o]D[l]");
        CHECK.eq("0 by all letters binds off all", Told.shape(y, 0), "4 0");
        y.setNumber('B', 1, 1);
        y.setNumber('C', 1, 2);
        y.setNumber('D', 1, 1);
        y.setNumber('D', 2, 40);
        CHECK.eq("the size 0 by its own numbers", Told.shape(y, 0), "4 0");
        CHECK.eq("the size 1 by its own", Told.stitches(y, 1, 1), "kppl");
        CHECK.eq("the size 2 by its own", Told.stitches(y, 2, 1), "llll");
    }

    private static void castOn() {
        Stitchwright x = Told.empty();
        for (int size = 0; size < 3; size++) {
            for (int loops : new int[] {0, 1, 39, 40, 0}) {
                x.setNumber('A', size, loops);
                CHECK.eq("cast on", x.loops(size, 0), loops);
                CHECK.eq("closes", x.closes(size), loops > 0);
                if (loops > 0) {
                    CHECK.eq("the last loop", x.stitch(size, 0, loops - 1), 'c');
                    CHECK.eq("its colour", x.colourOf(size, 0, loops - 1), 'a');
                }
                int of = size;
                CHECK.fails("no loop behind it", INDEX, () -> x.stitch(of, 0, loops));
            }
        }
        Stitchwright counts = Told.knit(40, "kA");
        CHECK.eq("A as a count of 40", counts.loops(0, 1), 40);
        counts.setNumber('B', 0, 39);
        Told.replace(counts, 1, "kB");
        CHECK.eq("39 of 40", counts.rows(0), 0);
        counts.setNumber('B', 0, 40);
        CHECK.eq("40 of 40", counts.rows(0), 1);
    }

    // "A size is knit flat or round, round at first." "In a round size, all rows are worked from the place 0 on; in a
    // flat one the rows 1, 3, 5 and so on are, and the others on the wrong side, from the last place on down to the
    // place 0." "In a row of the wrong side, the loop that is made first has the highest place."

    private static void sidesOfRows() {
        Stitchwright x = Told.castOn(3);
        x.setFlat(2, true);
        for (int row = 1; row <= 24; row++) {
            Told.add(x, "pbldk");
        }
        for (int row = 1; row <= 24; row++) {
            boolean isBack = row % 2 == 0;
            CHECK.eq("round row " + row, Told.stitches(x, 0, row), "plk");
            CHECK.eq("round colours " + row, Told.colours(x, 0, row), "abd");
            CHECK.eq("round, seen " + row, Told.seen(x, 0, row), "plk");
            CHECK.eq("flat row " + row, Told.stitches(x, 2, row), isBack ? "klp" : "plk");
            CHECK.eq("flat colours " + row, Told.colours(x, 2, row), isBack ? "dba" : "abd");
            CHECK.eq("flat, seen " + row, Told.seen(x, 2, row), "plk");
            CHECK.eq("flat parents " + row, Told.parents(x, 2, row), "0 1 2");
        }
        CHECK.eq("cast on is seen as it is", Told.seen(x, 2, 0), "ccc");
        CHECK.eq("round at first", x.setFlat(0, true), false);
        CHECK.eq("knit anew", Told.stitches(x, 0, 2), "klp");
        CHECK.eq("and flat till now", x.setFlat(0, false), true);
        CHECK.eq("round again", Told.stitches(x, 0, 2), "plk");
    }

    // "k, p and l take one loop, and make one ..; w takes one ..; y and m take none ..; f takes one, and makes two ..;
    // t and s take two ..; x and z take two .. and make two ..; o takes one, and makes none"

    private static void takesAndMakes() {
        for (int i = 0; i < STITCHES.length(); i++) {
            String row = "k" + STITCHES.charAt(i);
            int loops = 1 + TAKES[i];
            Stitchwright x = Told.knit(loops, row);
            CHECK.eq(row + " over just enough", x.closes(0), true);
            CHECK.eq(row + " makes", x.loops(0, 1), 1 + MAKES[i]);
            CHECK.eq(row + " over one too few", Told.knit(loops - 1, row).closes(0), false);
            CHECK.eq(row + " over one too many", Told.knit(loops + 1, row).closes(0), false);
            CHECK.eq(row + " takes yarn", x.yarn(0, '*'), 2 * loops + 3 + YARN[i]);
            Stitchwright flat = Told.flat(loops, row + "/");
            CHECK.eq(row + "/ over just enough", flat.closes(0), true);
            flat.setNumber('A', 0, loops - 1);
            CHECK.eq(row + "/ over one too few", flat.closes(0), false);
            flat.setNumber('A', 0, loops + 1);
            CHECK.eq(row + "/ over one more", flat.closes(0), true);
        }
    }

    private static void whatComesOfWhat() {
        String[] parents = {"0", "0", "0", "0", "-", "-", "0 0", "0+1", "0+1", "1 0", "1 0", ""};
        String[] mirrored = {"1", "1", "1", "1", "-", "-", "1 1", "1+0", "1+0", "1 0", "1 0", ""};
        for (int i = 0; i < STITCHES.length(); i++) {
            char stitch = STITCHES.charAt(i);
            int loops = TAKES[i] > 0 ? TAKES[i] : 1;
            String row = TAKES[i] > 0 ? "" + stitch : stitch + "o";
            Stitchwright x = Told.knit(loops, row);
            CHECK.eq(row + " comes of", Told.parents(x, 0, 1), parents[i]);
            Stitchwright flat = Told.flat(2, "k2", TAKES[i] == 2 ? row : stitch + (TAKES[i] == 1 ? "o" : "o2"));
            CHECK.eq(row + " on the wrong side comes of", Told.parents(flat, 0, 2), mirrored[i]);
            for (int place = 0; place < loops; place++) {
                boolean isBound = stitch == 'o' || TAKES[i] == 0;
                CHECK.eq(row + " binds off", x.isBound(0, 0, place), isBound);
                CHECK.eq(row + " holds", x.children(0, 0, place), isBound ? 0 : stitch == 'f' ? 2 : 1);
            }
        }
    }

    // "w takes one, and is p if this was made by p, otherwise k" "A loop by w is told as k or p; over a loop by h it is
    // k."

    private static void purlStays() {
        Stitchwright x = Told.knit(12, "plymftsxzk", "[w]", "[w]");
        CHECK.eq("over each stitch", Told.stitches(x, 0, 2), "p" + "k".repeat(12));
        CHECK.eq("over w told as p and k", Told.stitches(x, 0, 3), "p" + "k".repeat(12));
        Stitchwright flat = Told.flat(3, "p2/", "w2", "[w]");
        CHECK.eq("over p on the wrong side, h beside", Told.stitches(flat, 0, 2), "pph");
        CHECK.eq("over h", Told.stitches(flat, 0, 3), "ppk");
        Stitchwright held = Told.flat(3, "p3", "p/", "w", "w3");
        CHECK.eq("p that stays is h", Told.stitches(held, 0, 2), "hhp");
        CHECK.eq("behind the turn too", Told.stitches(held, 0, 3), "hhp");
        CHECK.eq("so w over it is k", Told.stitches(held, 0, 4), "kkp");
    }

    // "A stitch is made as often as its count tells, items in ( ) are worked as often as theirs."

    private static void counts() {
        for (int count = 0; count <= 12; count++) {
            for (int loops = 1; loops <= 12; loops++) {
                CHECK.eq("k" + count + " over " + loops, Told.knit(loops, "k" + count).closes(0), loops == count);
                CHECK.eq("t" + count + " over " + loops, Told.knit(loops, "t" + count).closes(0), loops == 2 * count);
            }
        }
        CHECK.eq("60 by y", work(1, "y59k"), "y".repeat(59) + "k");
        CHECK.eq("61 by y", work(1, "y60k"), "does not close");
        CHECK.eq("61 by y behind k", work(1, "ky60"), "does not close");
        CHECK.eq("99 by y", work(1, "ky99"), "does not close");
        CHECK.eq("60 by f", Told.knit(30, "f30").loops(0, 1), 60);
        CHECK.eq("61 by f and k", Told.knit(31, "f30k").closes(0), false);
        CHECK.eq("62 by f", Told.knit(31, "f31").closes(0), false);
        CHECK.eq("60 in the end, more than that taken and made", Told.knit(40, "o20y40k20").loops(0, 1), 60);
        CHECK.eq("one more", Told.knit(40, "o20y41k20").closes(0), false);
        Stitchwright x = Told.knit(30, "f30", "x30", "k60");
        CHECK.eq("60 crossed", x.crossings(0), 30);
        CHECK.eq("and worked", x.rows(0), 3);
        Told.replace(x, 3, "k60y");
        CHECK.eq("61 over 60", x.rows(0), 2);
        Told.replace(x, 3, "ok59y");
        CHECK.eq("60 over 60", x.rows(0), 3);
        Told.replace(x, 3, "k61");
        CHECK.eq("61 taken of 60", x.rows(0), 2);
        Told.replace(x, 3, "o60");
        CHECK.eq("60 bound off", x.loops(0, 3), 0);
    }

    private static void roundCounts() {
        for (int count = 0; count <= 6; count++) {
            for (int loops = 1; loops <= 12; loops++) {
                CHECK.eq("(kp)" + count + " over " + loops, Told.knit(loops, "(kp)" + count).closes(0), loops == 2 * count);
            }
        }
        CHECK.eq("0 times, what is behind it is worked", work(1, "(kkk)0p"), "p");
        CHECK.eq("0 times, within", work(2, "((t)0k)2"), "kk");
        CHECK.eq("59 times", Told.knit(1, "(y)59k").loops(0, 1), 60);
        CHECK.eq("60 times", Told.knit(1, "(y)60k").closes(0), false);
        CHECK.eq("99 times", Told.knit(1, "k(y)99").closes(0), false);
        CHECK.eq("99 times nothing", work(1, "(k0)99k"), "k");
        CHECK.eq("99 times a colour", Told.colours(Told.knit(1, "(db)99k"), 0, 1), "b");
        CHECK.eq("0 times a colour", Told.colours(Told.knit(1, "(db)0k"), 0, 1), "a");
        CHECK.eq("a count of 0 by a letter", work(1, "(kkk)Bp"), "p");
    }

    // "Items in [ ] are worked as often as they fit into the loops that are left, but for the last ones, as many as the
    // number tells: the loops left, less this number, divided by how many loops the items take once, rounded down; not
    // at all if that is below 0, or they take none."

    private static void fits() {
        String[] items = {"k", "kp", "kpk", "pt", "(k)2p", "(kp)2"};
        int[] takes = {1, 2, 3, 3, 3, 4};
        String[] made = {"k", "kp", "kpk", "pt", "kkp", "kpkp"};
        for (int i = 0; i < items.length; i++) {
            for (int loops = 1; loops <= 13; loops++) {
                for (int number = 0; number <= 14; number++) {
                    int times = loops < number ? 0 : (loops - number) / takes[i];
                    String due = made[i].repeat(times) + "l".repeat(loops - times * takes[i]);
                    CHECK.eq("[" + items[i] + "]" + number + " over " + loops,
                            work(loops, "[" + items[i] + "]" + number + "[l]"), due);
                }
            }
        }
        CHECK.eq("none left", work(1, "k[p]"), "k");
        CHECK.eq("none left, and a number", work(1, "k[p]99"), "k");
        CHECK.eq("one left", work(2, "k[p]"), "kp");
        CHECK.eq("the number 99", work(5, "[p]99[k]"), "kkkkk");
    }

    private static void takenOnce() {
        for (String items : new String[] {"y", "m3", "b", "k0", "(k)0", "(k0t0)9", "yB", "kB", "(x)B"}) {
            CHECK.eq("they take none: " + items, work(2, "[" + items + "]kp"), "kp");
            CHECK.eq("nor a colour: " + items, Told.colours(Told.knit(2, "[" + items + "]kp"), 0, 1), "aa");
            CHECK.eq("they take none, a number: " + items, work(2, "k[" + items + "]1p"), "kp");
        }
        CHECK.eq("o takes one", Told.knit(5, "[o]2[k]").loops(0, 1), 2);
        CHECK.eq("f takes one", work(3, "[f]1p"), "ffffp");
        CHECK.eq("y beside k", work(3, "[yk]1p"), "ykykp");
        CHECK.eq("x takes two", work(5, "[x]2[p]"), "xxppp");
        Stitchwright x = Told.knit(7, "[kB]C[p]");
        x.setNumber('B', 0, 3);
        x.setNumber('C', 0, 1);
        CHECK.eq("a letter of this size", Told.stitches(x, 0, 1), "kkkkkkp");
        x.setNumber('C', 0, 2);
        CHECK.eq("one more to leave", Told.stitches(x, 0, 1), "kkkpppp");
        x.setNumber('C', 0, 8);
        CHECK.eq("more to leave than there are", Told.stitches(x, 0, 1), "ppppppp");
        CHECK.eq("more taken once than an int holds", work(1, "[(((t99t99t99t99t99t99t99t99t99t99t99)99)99)99]k"), "k");
    }

    // "A colour is that of all stitches behind it in this row; a row begins with a, and so is what was cast on."

    private static void coloursOfRows() {
        Stitchwright x = Told.knit(4, "kbkdkak", "kkkbk", "kkkk", "dkkkk");
        CHECK.eq("cast on", Told.colours(x, 0, 0), "aaaa");
        CHECK.eq("before the first one, and behind each", Told.colours(x, 0, 1), "abda");
        CHECK.eq("before the last stitch", Told.colours(x, 0, 2), "aaab");
        CHECK.eq("the next row begins with a again", Told.colours(x, 0, 3), "aaaa");
        CHECK.eq("before the first stitch", Told.colours(x, 0, 4), "dddd");
        CHECK.eq("at the end, behind all stitches", Told.colours(Told.knit(2, "kkb"), 0, 1), "aa");
        CHECK.eq("the last of some counts", Told.colours(Told.knit(2, "abdabkk"), 0, 1), "bb");
    }

    // "At / the row is over: loops that are left stay, as loops of this row by the stitch h, each of which comes of
    // itself, with its colour. It can be so in a flat size alone."

    private static void turning() {
        for (int loops = 1; loops <= 6; loops++) {
            for (int worked = 0; worked <= 7; worked++) {
                Stitchwright x = Told.flat(loops, "dk" + worked + "/");
                String what = "k" + worked + "/ over " + loops;
                CHECK.eq(what, x.closes(0), worked <= loops);
                if (worked <= loops) {
                    CHECK.eq(what + " stitches", Told.stitches(x, 0, 1), "k".repeat(worked) + "h".repeat(loops - worked));
                    CHECK.eq(what + " colours", Told.colours(x, 0, 1), "d".repeat(worked) + "a".repeat(loops - worked));
                    CHECK.eq(what + " parents", Told.parents(x, 0, 1), "0 1 2 3 4 5".substring(0, 2 * loops - 1));
                    CHECK.eq(what + " yarn", x.yarn(0, '*'), 2 * loops + 3 * worked);
                }
            }
        }
    }

    // "A row behind one that turned lets those loops stay likewise with which it would begin, as many as were left, and
    // is worked over the others." "Loops that stay behind a turn are none of those that are left for [ ]."

    private static void behindATurn() {
        for (int left = 0; left <= 5; left++) {
            int worked = 5 - left;
            Stitchwright x = Told.flat(5, "k" + worked + "/", "[p]", "[l]");
            CHECK.eq(left + " left: the row behind", Told.stitches(x, 0, 2), "p".repeat(worked) + "h".repeat(left));
            CHECK.eq(left + " left: and the one behind that", Told.stitches(x, 0, 3), "lllll");
            Told.replace(x, 2, "p" + worked);
            CHECK.eq(left + " left: just the others", x.rows(0), 3);
            Told.replace(x, 2, "p" + (worked + 1));
            CHECK.eq(left + " left: one more than the others", x.rows(0), 1);
            if (worked > 0) {
                Told.replace(x, 2, "p" + (worked - 1));
                CHECK.eq(left + " left: one less than the others", x.rows(0), 1);
                Told.replace(x, 2, "[p]1/");
                CHECK.eq(left + " left: all but one", Told.stitches(x, 0, 2), "h" + "p".repeat(worked - 1) + "h".repeat(left));
                CHECK.eq(left + " left: one stays", Told.stitches(x, 0, 3), "hllll");
                Told.replace(x, 3, "l4/");
                Told.add(x, "[k]");
                CHECK.eq(left + " left: none left by the third turn", Told.stitches(x, 0, 4), "kkkkk");
            }
        }
        Stitchwright all = Told.flat(2, "b/", "k0", "k2");
        CHECK.eq("all left, none to work", Told.stitches(all, 0, 2), "hh");
        CHECK.eq("without / none are left", Told.stitches(all, 0, 3), "kk");
        Told.replace(all, 2, "y");
        CHECK.eq("one made of none before those that stay", Told.stitches(all, 0, 2), "yhh");
        Stitchwright bound = Told.flat(3, "k2/", "o2", "k");
        CHECK.eq("the others bound off", Told.stitches(bound, 0, 2), "h");
        CHECK.eq("and what stayed is worked", Told.stitches(bound, 0, 3), "k");
        Stitchwright last = Told.flat(2);
        for (int row = 1; row <= 24; row++) {
            Told.add(last, row % 2 == 1 ? "k/" : "pk0/");
        }
        CHECK.eq("turned in each of 24 rows", last.rows(0), 24);
        CHECK.eq("the row 24", Told.stitches(last, 0, 24), "ph");
    }

    // "at most 60 loops are in it then"

    private static void turnsFillARow() {
        CHECK.eq("60 with those left", Told.flat(40, "y20/").closes(0), true);
        CHECK.eq("61 with those left", Told.flat(40, "y21/").closes(0), false);
        CHECK.eq("60 with those that stay behind a turn", Told.flat(40, "k20/", "f20").loops(0, 2), 60);
        CHECK.eq("61 with those that stay behind a turn", Told.flat(40, "k20/", "yf20").closes(0), false);
        CHECK.eq("60 with both", Told.flat(40, "k20/", "f10y10/").loops(0, 2), 60);
        CHECK.eq("61 with both", Told.flat(40, "k20/", "f10y11/").closes(0), false);
    }

    private static void turnedInTheRound() {
        for (int worked = 0; worked <= 4; worked++) {
            Stitchwright x = Told.knit(4, "k" + worked + "/", "[k]");
            CHECK.eq("/ in a round size, " + worked, x.closes(0), false);
            CHECK.eq("its rows", x.rows(0), 0);
            x.setFlat(0, true);
            CHECK.eq("/ in a flat one, " + worked, x.rows(0), 2);
            x.setFlat(0, false);
            CHECK.eq("round again, " + worked, x.rows(0), 0);
        }
        CHECK.fails("a row that turned in the round is not there", NONE, () -> Told.knit(1, "k/").loops(0, 1));
    }
}
