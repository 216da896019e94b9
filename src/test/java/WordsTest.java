/** The promises 1 to 8: words and sizes. */
public final class WordsTest {
    private static final Check CHECK = new Check("WordsTest");
    private static final Class<IllegalArgumentException> ARGUMENT = IllegalArgumentException.class;
    private static final Class<IllegalStateException> STATE = IllegalStateException.class;
    private static final Class<IndexOutOfBoundsException> INDEX = IndexOutOfBoundsException.class;

    public static void main(String[] args) {
        newObject();
        type();
        clear();
        fault();
        brackets();
        addRow();
        replace();
        setNumber();
        setFlat();
        CHECK.end();
    }

    private static void newObject() {
        Stitchwright x = Told.empty();
        CHECK.eq("clear of a new object", x.clear(), 0);
        CHECK.fails("a row of a new object", INDEX, () -> x.replace(1));
        for (int size = 0; size < 3; size++) {
            int of = size;
            CHECK.eq("rows", x.rows(of), 0);
            CHECK.eq("loops cast on", x.loops(of, 0), 0);
            CHECK.eq("flat", x.setFlat(of, false), false);
            for (char letter = 'A'; letter <= 'D'; letter++) {
                CHECK.eq("letter " + letter, x.setNumber(letter, of, 0), 0);
            }
        }
        CHECK.eq("acts", x.acts(), 0);
        CHECK.eq("racking", x.rack(0), 0);
        for (int needle = 0; needle < 16; needle++) {
            int at = needle;
            CHECK.fails("front needle", java.util.NoSuchElementException.class, () -> x.onNeedle(true, at, 0));
            CHECK.fails("back needle", java.util.NoSuchElementException.class, () -> x.onNeedle(false, at, 0));
        }
        CHECK.eq("ball", x.setBall(10), 100);
        CHECK.eq("float", x.setFloat(1), 4);
        CHECK.eq("gauge", x.setGauge(1), 20);
    }

    private static void type() {
        String signs = "kplwymftsxzoabd()[]/0123456789ABCD";
        Stitchwright x = Told.empty();
        int typed = 0;
        for (char sign = 0; sign < 300; sign++) {
            char of = sign;
            if (signs.indexOf(sign) >= 0) {
                typed++;
                CHECK.eq("type " + (int) of, x.type(of), typed);
            } else {
                CHECK.fails("type " + (int) of, ARGUMENT, () -> x.type(of));
            }
        }
        CHECK.fails("type a sign far off", ARGUMENT, () -> x.type((char) ('k' + 65280)));
        CHECK.eq("signs typed", x.clear(), 34);
        for (int i = 1; i <= 60; i++) {
            CHECK.eq("sign " + i, x.type('p'), i);
        }
        CHECK.fails("the sign 61", STATE, () -> x.type('p'));
        CHECK.fails("a wrong sign 61", ARGUMENT, () -> x.type('q'));
        CHECK.eq("still 60", x.clear(), 60);
    }

    private static void clear() {
        Stitchwright x = Told.empty();
        x.type('k');
        x.type('2');
        CHECK.eq("clear", x.clear(), 2);
        CHECK.eq("clear again", x.clear(), 0);
        CHECK.eq("type after clear", x.type('k'), 1);
        CHECK.eq("what was cleared is gone", x.fault(), -1);
    }

    private static void fault() {
        for (String row : new String[] {"k", "b", "k0", "k00", "k9", "k99", "kA", "kD", "k/", "k12/", "b/", "(b)", "[b]",
            "(k)", "(k)2", "(k)12", "(k)C", "[k]", "[k]2", "[k]12", "[k]B", "[k]/", "kplwymftsxzoabd", "k(p)k",
            "((((k))))", "[(((k)))]", "((((k)2)3)4)5", "(k(p)2y)3[x]1[w]", "[k][p]", "ak12"}) {
            CHECK.eq("fault of " + row, Told.fault(row), -1);
        }
        CHECK.eq("fault of nothing", Told.fault(""), 0);
        CHECK.eq("a digit first", Told.fault("2"), 0);
        CHECK.eq("a letter first", Told.fault("Ak"), 0);
        CHECK.eq("a turn first", Told.fault("/"), 0);
        CHECK.eq("three digits", Told.fault("k234"), 3);
        CHECK.eq("three digits behind )", Told.fault("(k)123"), 5);
        CHECK.eq("three digits behind ]", Told.fault("[k]123"), 5);
        CHECK.eq("two letters", Told.fault("kAB"), 2);
        CHECK.eq("a letter and a digit", Told.fault("kA2"), 2);
        CHECK.eq("a digit and a letter", Told.fault("k2A"), 2);
        CHECK.eq("two digits and a letter", Told.fault("k23A"), 3);
        CHECK.eq("a count of a colour", Told.fault("b2"), 1);
        CHECK.eq("a letter of a colour", Told.fault("kdA"), 2);
        CHECK.eq("more behind /", Told.fault("k/k"), 2);
        CHECK.eq("two turns", Told.fault("k//"), 2);
        CHECK.eq("a count of /", Told.fault("k/2"), 2);
        CHECK.eq("two faults", Told.fault("kk23400)"), 4);
        String full = "k".repeat(60);
        CHECK.eq("60 signs", Told.fault(full), -1);
        CHECK.eq("60 signs that end too early", Told.fault(full.substring(2) + "(k"), 60);
        Stitchwright x = Told.empty();
        Told.buffer(x, "k)");
        CHECK.eq("fault", x.fault(), 1);
        CHECK.eq("fault changes nothing", x.clear(), 2);
    }

    private static void brackets() {
        CHECK.eq("an open (", Told.fault("("), 1);
        CHECK.eq("an open ( with an item", Told.fault("(k"), 2);
        CHECK.eq("an open [", Told.fault("k[p"), 3);
        CHECK.eq("one of two shut", Told.fault("((k)"), 4);
        CHECK.eq("nothing in ( )", Told.fault("()"), 1);
        CHECK.eq("nothing in [ ]", Told.fault("k[]"), 2);
        CHECK.eq("nothing in ( ) within", Told.fault("(k())"), 3);
        CHECK.eq(") alone", Told.fault("k)"), 1);
        CHECK.eq("] alone", Told.fault("k]"), 1);
        CHECK.eq("( ]", Told.fault("(k]"), 2);
        CHECK.eq("[ )", Told.fault("[k)"), 2);
        CHECK.eq("[ ( ]", Told.fault("[(k]"), 3);
        CHECK.eq("[ ( ) )", Told.fault("[(k))"), 4);
        CHECK.eq("a count behind (", Told.fault("(2k)"), 1);
        CHECK.eq("[ in (", Told.fault("(k[p]"), 2);
        CHECK.eq("[ in [", Told.fault("[k[p]"), 2);
        CHECK.eq("[ in ( in [", Told.fault("[(["), 2);
        CHECK.eq("[ behind [ ]", Told.fault("[k][p"), 5);
        CHECK.eq("/ in (", Told.fault("(k/"), 2);
        CHECK.eq("/ in [", Told.fault("[k/"), 2);
        CHECK.eq("five (", Told.fault("(((((k"), 4);
        CHECK.eq("four (", Told.fault("((((k2"), 6);
        CHECK.eq("[ and four (", Told.fault("[((((k"), 4);
        CHECK.eq("[ and three (", Told.fault("[(((k"), 5);
        CHECK.eq("four ( behind four )", Told.fault("((((k))))((((k))))"), -1);
        CHECK.eq("five ( behind one )", Told.fault("((k)((((k"), 7);
    }

    private static void addRow() {
        Stitchwright x = Told.castOn(2);
        CHECK.fails("nothing", ARGUMENT, x::addRow);
        Told.buffer(x, "k(");
        CHECK.fails("no row", ARGUMENT, x::addRow);
        CHECK.eq("the buffer stays", x.clear(), 2);
        for (int row = 1; row <= 24; row++) {
            CHECK.eq("row " + row, Told.add(x, "k2"), row);
            CHECK.eq("the buffer is empty", x.clear(), 0);
        }
        Told.buffer(x, "k2");
        CHECK.fails("the row 25", STATE, x::addRow);
        CHECK.eq("the buffer stays in place", x.fault(), -1);
        x.type('(');
        CHECK.fails("no row 25", ARGUMENT, x::addRow);
        CHECK.eq("rows", x.rows(1), 24);
        CHECK.eq("replace the last by the same", Told.replace(x, 24, "p2"), 0);
        CHECK.eq("replace with 24 rows", Told.replace(x, 24, "t"), 3);
    }

    private static void replace() {
        Stitchwright x = Told.castOn(4);
        x.setNumber('A', 1, 5);
        x.setNumber('A', 2, 6);
        Told.add(x, "[k]");
        Told.add(x, "[k]");
        CHECK.eq("nothing changes in number", Told.replace(x, 1, "[p]"), 0);
        CHECK.eq("but the stitch does", x.stitch(0, 1, 0), 'p');
        CHECK.eq("the buffer is empty", x.clear(), 0);
        CHECK.eq("two sizes have half the loops, one does not close", Told.replace(x, 1, "[t]"), 3);
        CHECK.eq("even", Told.shape(x, 0), "4 2 2");
        CHECK.eq("odd", Told.shape(x, 1), "5");
        CHECK.eq("the odd size has rows again", Told.replace(x, 1, "[t]0[k]"), 1);
        CHECK.eq("a loop more in all sizes", Told.replace(x, 2, "[k]y"), 3);
        CHECK.eq("as many again", Told.replace(x, 2, "m[p]"), 0);
        CHECK.eq("a row less in two sizes", Told.replace(x, 2, "k2y"), 2);
        CHECK.eq("and in the other one", Told.replace(x, 2, "k4"), 1);
        CHECK.eq("no row less", Told.replace(x, 2, "k5"), 0);
        Told.buffer(x, "k");
        CHECK.fails("row 0", INDEX, () -> x.replace(0));
        CHECK.fails("row 3", INDEX, () -> x.replace(3));
        CHECK.fails("row -1", INDEX, () -> x.replace(-1));
        CHECK.eq("the buffer stays", x.clear(), 1);
        CHECK.fails("no row", ARGUMENT, () -> x.replace(1));
        CHECK.fails("no row and no such row", INDEX, () -> x.replace(3));
        Stitchwright same = Told.knit(6, "y2[k]", "t4");
        CHECK.eq("the same rows, other numbers in between", Told.replace(same, 1, "y2[k]1o"), 3);
        Stitchwright behind = Told.knit(3, "k", "k3");
        CHECK.eq("a row that is not in the fabric", Told.replace(behind, 2, "k2"), 0);
    }

    private static void setNumber() {
        Stitchwright x = Told.empty();
        CHECK.eq("first", x.setNumber('B', 1, 40), 0);
        CHECK.eq("second", x.setNumber('B', 1, 0), 40);
        CHECK.eq("another size", x.setNumber('B', 0, 7), 0);
        CHECK.eq("another letter", x.setNumber('C', 1, 7), 0);
        CHECK.fails("number 41", ARGUMENT, () -> x.setNumber('A', 0, 41));
        CHECK.fails("number -1", ARGUMENT, () -> x.setNumber('A', 0, -1));
        CHECK.fails("letter E", ARGUMENT, () -> x.setNumber('E', 0, 1));
        CHECK.fails("letter @", ARGUMENT, () -> x.setNumber('@', 0, 1));
        CHECK.fails("letter a", ARGUMENT, () -> x.setNumber('a', 0, 1));
        CHECK.fails("size 3", INDEX, () -> x.setNumber('A', 3, 1));
        CHECK.fails("size -1", INDEX, () -> x.setNumber('A', -1, 1));
        CHECK.fails("size 3 and number 41", ARGUMENT, () -> x.setNumber('A', 3, 41));
        CHECK.eq("A is cast on", x.setNumber('A', 2, 9), 0);
        CHECK.eq("nine", x.loops(2, 0), 9);
        CHECK.eq("not elsewhere", x.loops(1, 0), 0);
        Stitchwright y = Told.knit(6, "kB(p)C[o]D[k]");
        y.setNumber('B', 1, 2);
        y.setNumber('C', 1, 2);
        y.setNumber('D', 1, 1);
        CHECK.eq("all letters 0", Told.shape(y, 0), "6 0");
        CHECK.eq("counts by letters", Told.stitches(y, 1, 1), "kkppk");
        y.setNumber('B', 1, 3);
        CHECK.eq("other counts", Told.stitches(y, 1, 1), "kkkppk");
    }

    private static void setFlat() {
        Stitchwright x = Told.knit(3, "k2/");
        CHECK.eq("round at first", x.setFlat(1, true), false);
        CHECK.eq("flat then", x.setFlat(1, true), true);
        CHECK.eq("others stay round", x.setFlat(2, false), false);
        CHECK.eq("the flat one turns", x.rows(1), 1);
        CHECK.eq("the round one does not", x.rows(2), 0);
        CHECK.eq("flat till now", x.setFlat(1, false), true);
        CHECK.eq("no turning any more", x.rows(1), 0);
        CHECK.fails("size 3", INDEX, () -> x.setFlat(3, true));
        CHECK.fails("size -1", INDEX, () -> x.setFlat(-1, true));
    }
}
