import java.util.NoSuchElementException;

/**
 * The promises, one behind the other: what each call answers on a new object, at the last values
 * that are allowed on both sides, where there is nothing, and where there is the most that can be.
 * What is refused beyond them stands in RefusedTest.
 */
public final class PromiseEdgesTest {
    private static final Check CHECK = new Check("PromiseEdgesTest");
    private static final Class<IllegalArgumentException> ARGUMENT = IllegalArgumentException.class;
    private static final Class<IllegalStateException> STATE = IllegalStateException.class;
    private static final Class<IndexOutOfBoundsException> INDEX = IndexOutOfBoundsException.class;
    private static final Class<NoSuchElementException> NONE = NoSuchElementException.class;
    private static final String SIGNS = "kplwymftsxzoabd()[]/0123456789ABCD";

    public static void main(String[] args) {
        newPattern();
        newSizes();
        newMachine();
        type();
        clear();
        fault();
        addRow();
        replace();
        replaceCounts();
        setNumber();
        setFlat();
        rowsAndLoops();
        firstAndLastLoops();
        parents();
        firstAndLastDropped();
        roots();
        alike();
        mark();
        undone();
        yarn();
        limits();
        ballEnd();
        longest();
        width();
        hang();
        rack();
        transfer();
        onNeedle();
        acts();
        leastActs();
        figures();
        CHECK.end();
    }

    /** 24 rows over 30 loops in all sizes, of which the last 23 have 60. */
    private static Stitchwright largest() {
        Stitchwright x = Told.knit(30, "[f]");
        for (int row = 2; row <= 24; row++) {
            Told.add(x, row == 24 ? "k58dx" : "[kp]");
        }
        return x;
    }

    // 1: "Creates a pattern without rows, in which all letters mean 0, and an empty machine."

    private static void newPattern() {
        Stitchwright x = Told.empty();
        CHECK.eq("nothing in the buffer", x.clear(), 0);
        CHECK.eq("nothing is no row", x.fault(), 0);
        CHECK.eq("the first sign", x.type('k'), 1);
        CHECK.fails("no row to replace", INDEX, () -> x.replace(1));
        CHECK.eq("the first row", x.addRow(), 1);
        for (char letter : "ABCD".toCharArray()) {
            for (int size = 0; size < 3; size++) {
                CHECK.eq(letter + " means 0 in the size " + size, x.setNumber(letter, size, 1), 0);
            }
        }
    }

    private static void newSizes() {
        Stitchwright x = Told.empty();
        for (int size = 0; size < 3; size++) {
            int of = size;
            CHECK.eq("rows", x.rows(of), 0);
            CHECK.eq("closes", x.closes(of), false);
            CHECK.eq("loops", x.loops(of, 0), 0);
            CHECK.eq("crossings", x.crossings(of), 0);
            CHECK.eq("undone", x.undone(of), 0);
            for (char colour : "abd*".toCharArray()) {
                CHECK.eq("yarn", x.yarn(of, colour), 0);
            }
            CHECK.eq("longest", x.longest(of, 0), 0);
            CHECK.eq("catches", x.catches(of), 0);
            CHECK.eq("width", x.width(of, 0), 0);
            CHECK.fails("no row 1", NONE, () -> x.loops(of, 1));
            CHECK.fails("no loop", INDEX, () -> x.stitch(of, 0, 0));
            CHECK.eq("round", x.setFlat(of, true), false);
        }
        CHECK.eq("balls", x.setBall(100), 100);
        CHECK.eq("floats", x.setFloat(4), 4);
        CHECK.eq("gauge", x.setGauge(20), 20);
        CHECK.eq("checksum", x.checksum(), 0L);
        CHECK.eq("closedShare", x.closedShare(), 0f);
        CHECK.eq("meanLoops", x.meanLoops(), 0.0);
        CHECK.eq("isSound", x.isSound(), true);
    }

    private static void newMachine() {
        Stitchwright x = Told.empty();
        CHECK.eq("acts", x.acts(), 0);
        for (int needle = 0; needle < 16; needle++) {
            int of = needle;
            CHECK.fails("front " + of, NONE, () -> x.onNeedle(true, of, 0));
            CHECK.fails("back " + of, NONE, () -> x.onNeedle(false, of, 0));
            CHECK.fails("from front " + of, NONE, () -> x.transfer(true, of));
            CHECK.fails("from back " + of, NONE, () -> x.transfer(false, of));
        }
        CHECK.eq("racking", x.rack(0), 0);
        CHECK.eq("nothing was done", x.acts(), 0);
        CHECK.eq("hang nothing", x.hang(0), 0);
    }

    // 2: "Returns how many are in the buffer then." "IllegalStateException if 60 are there"

    private static void type() {
        for (char sign : SIGNS.toCharArray()) {
            Stitchwright x = Told.empty();
            CHECK.eq("first: " + sign, x.type(sign), 1);
            Told.buffer(x, "k".repeat(59));
            CHECK.eq("the sign 60: " + sign, x.type(sign), 60);
            CHECK.fails("the sign 61: " + sign, STATE, () -> x.type(sign));
            CHECK.eq("60 were there", x.clear(), 60);
            CHECK.eq("the first again: " + sign, x.type(sign), 1);
        }
        for (char sign : SIGNS.toCharArray()) {
            char below = (char) (sign - 1);
            char above = (char) (sign + 1);
            for (char beside : new char[] {below, above}) {
                if (SIGNS.indexOf(beside) < 0) {
                    CHECK.fails("beside " + sign + ": " + (int) beside, ARGUMENT, () -> Told.empty().type(beside));
                }
            }
        }
        Stitchwright x = Told.empty();
        Told.buffer(x, "k".repeat(60));
        x.addRow();
        CHECK.eq("behind addRow the buffer is empty", x.type('p'), 1);
        Told.buffer(x, "p".repeat(60));
        x.replace(1);
        CHECK.eq("behind replace too", x.type('p'), 1);
    }

    // 3: "Empties the buffer. Returns how many were there."

    private static void clear() {
        Stitchwright x = Told.empty();
        for (int signs = 0; signs <= 60; signs += signs < 3 || signs > 57 ? 1 : 11) {
            Told.buffer(x, "(".repeat(signs));
            CHECK.eq("clear " + signs, x.clear(), signs);
            CHECK.eq("empty behind " + signs, x.clear(), 0);
        }
        Told.buffer(x, "k(");
        CHECK.fails("no row", ARGUMENT, x::addRow);
        CHECK.eq("what was refused is still there", x.clear(), 2);
        Told.add(x, "k2");
        CHECK.eq("what was added is not", x.clear(), 0);
        Told.replace(x, 1, "k3");
        CHECK.eq("nor what replaced a row", x.clear(), 0);
        x.setNumber('A', 0, 3);
        CHECK.eq("the row stays", x.rows(0), 1);
    }

    // 4: "Returns the place of the first sign by which the buffer cannot be a row, its length if it ends too early."
    // "Returns the place, from 0, or -1 if it is a row."

    private static void fault() {
        for (int signs = 0; signs < 60; signs++) {
            String kept = "k".repeat(signs);
            CHECK.eq(signs + " stitches", Told.fault(kept), signs == 0 ? 0 : -1);
            CHECK.eq("a faulty sign behind " + signs, Told.fault(kept + ")"), signs);
            CHECK.eq("a faulty sign before " + signs, Told.fault("]" + kept), 0);
            CHECK.eq("an open bracket before " + signs, Told.fault("(" + kept), signs + 1);
            CHECK.eq("an open bracket behind " + signs, Told.fault(kept + "["), signs + 1);
            CHECK.eq("a turn behind " + signs, Told.fault(kept + "/"), signs == 0 ? 0 : -1);
        }
        CHECK.eq("60 stitches", Told.fault("k".repeat(60)), -1);
        CHECK.eq("the first of two faults", Told.fault("k)]"), 1);
        CHECK.eq("a fault ahead of an open bracket", Told.fault("b2(k"), 1);
        CHECK.eq("an open bracket ahead of a fault", Told.fault("(kb2"), 3);
        Stitchwright x = Told.empty();
        Told.buffer(x, "kb1");
        CHECK.eq("asked once", x.fault(), 2);
        CHECK.eq("asked twice", x.fault(), 2);
        CHECK.eq("the buffer stays", x.clear(), 3);
    }

    // 5: "Adds the buffer as the next row; it is empty then. Returns the number of rows."

    private static void addRow() {
        Stitchwright x = Told.castOn(3);
        for (int row = 1; row <= 24; row++) {
            CHECK.eq("row " + row + ", also behind one that does not close", Told.add(x, row == 3 ? "k4" : "k3"), row);
        }
        CHECK.eq("two rows are in the fabric", x.rows(0), 2);
        Told.buffer(x, "k3");
        CHECK.fails("the row 25", STATE, x::addRow);
        CHECK.eq("its signs are still there, and replace a row", x.replace(3), 3);
        CHECK.eq("24 rows then", x.rows(0), 24);
        Told.buffer(x, "k3");
        CHECK.fails("still no row 25", STATE, x::addRow);
        CHECK.eq("a row that was replaced can be so again", x.replace(24), 0);
    }

    // 6: "Replaces a row by the buffer; it is empty then." "IndexOutOfBoundsException if there is no such row"

    private static void replace() {
        Stitchwright x = Told.castOn(2);
        for (int row = 1; row <= 24; row++) {
            int behind = row;
            Told.buffer(x, "p2");
            CHECK.fails("the row behind the last one", INDEX, () -> x.replace(behind));
            x.clear();
            Told.add(x, "k2");
            CHECK.eq("the last row", Told.replace(x, row, "p2"), 0);
            CHECK.eq("it is the other one", x.stitch(0, row, 1), 'p');
            CHECK.eq("the first row", Told.replace(x, 1, "l2"), 0);
            CHECK.eq("this too", x.stitch(0, 1, 1), 'l');
        }
        Told.buffer(x, "w2");
        CHECK.fails("the row 0", INDEX, () -> x.replace(0));
        CHECK.fails("the row 25", INDEX, () -> x.replace(25));
        CHECK.eq("the signs are still there", x.replace(13), 0);
    }

    // "Returns in how many sizes the fabric has another number of loops in some row, or another number of rows then."

    private static void replaceCounts() {
        Stitchwright x = new Stitchwright();
        for (int size = 0; size < 3; size++) {
            x.setNumber('A', size, 4 + size);
            x.setNumber('B', size, size == 2 ? 1 : 0);
            x.setNumber('C', size, size == 0 ? 0 : 1);
        }
        Told.add(x, "[k]");
        Told.add(x, "[k]");
        CHECK.eq("none: the same row", Told.replace(x, 1, "[k]"), 0);
        CHECK.eq("none: other stitches", Told.replace(x, 1, "[p]/"), 3);
        CHECK.eq("a turn in the round has no rows; again all", Told.replace(x, 1, "[p]"), 3);
        CHECK.eq("one size by its letter", Told.replace(x, 1, "yB[k]"), 1);
        CHECK.eq("and back", Told.replace(x, 1, "[k]"), 1);
        CHECK.eq("two sizes by their letters", Told.replace(x, 1, "yC[k]"), 2);
        CHECK.eq("one of these two back", Told.replace(x, 1, "yB[k]"), 1);
        CHECK.eq("one back, two others", Told.replace(x, 1, "y[k]"), 2);
        CHECK.eq("all sizes", Told.replace(x, 1, "y2[k]"), 3);
        CHECK.eq("as many by other loops", Told.replace(x, 1, "m[k]y"), 0);
        CHECK.eq("the last row alone", Told.replace(x, 2, "y[k]"), 3);
        CHECK.eq("a row less in the sizes that are not 7 wide", Told.replace(x, 2, "k7"), 3);
        CHECK.eq("which of them closed", Told.shape(x, 1), "5 7 7");
        CHECK.eq("and which did not", Told.shape(x, 0), "4 6");
        CHECK.eq("as many rows, none of them in the fabric", Told.replace(x, 2, "k9"), 1);
        CHECK.eq("a row that no size has", Told.replace(x, 2, "k20"), 0);
        Stitchwright three = Told.knit(4, "[k]", "[k]", "[k]");
        CHECK.eq("in the middle alone", Told.replace(three, 2, "[k]y"), 3);
        CHECK.eq("the row behind it has as many again", Told.replace(three, 3, "t[k]"), 3);
        CHECK.eq("4 4 5 4", Told.shape(three, 0), "4 4 5 4");
        CHECK.eq("the middle again, and with it the last one", Told.replace(three, 2, "[k]"), 3);
        CHECK.eq("4 4 4 3", Told.shape(three, 0), "4 4 4 3");
    }

    // 7: "the letter, A to D", "the size, 0 to 2", "the number, 0 to 40", "Returns what it meant."

    private static void setNumber() {
        for (char letter : "ABCD".toCharArray()) {
            for (int size = 0; size < 3; size++) {
                Stitchwright x = Told.empty();
                int before = 0;
                for (int number : new int[] {40, 0, 1, 39, 40, 40, 0, 0}) {
                    CHECK.eq(letter + " in " + size, x.setNumber(letter, size, number), before);
                    before = number;
                    for (int other = 0; other < 3; other++) {
                        int due = letter == 'A' && other == size ? number : 0;
                        CHECK.eq(letter + " " + number + " casts on", x.loops(other, 0), due);
                        CHECK.eq(letter + " " + number + " closes", x.closes(other), due > 0);
                    }
                }
            }
        }
        Stitchwright x = Told.knit(40, "kA");
        CHECK.eq("a count of 40", x.rows(0), 1);
        x.setNumber('A', 0, 0);
        CHECK.eq("a count of 0 over 0", x.rows(0), 0);
        x.setNumber('A', 0, 1);
        CHECK.eq("a count of 1 over 1", x.rows(0), 1);
    }

    // 8: "Tells whether a size is knit flat. Returns whether it was."

    private static void setFlat() {
        for (int size = 0; size < 3; size++) {
            Stitchwright x = Told.knit(2, "k/");
            boolean before = false;
            for (boolean isFlat : new boolean[] {false, true, true, false, true}) {
                CHECK.eq("flat " + size, x.setFlat(size, isFlat), before);
                before = isFlat;
                for (int other = 0; other < 3; other++) {
                    CHECK.eq("turns", x.closes(other), other == size && isFlat);
                }
            }
        }
    }

    // 9 to 11: rows, closes, loops

    private static void rowsAndLoops() {
        Stitchwright x = largest();
        for (int size = 0; size < 3; size++) {
            CHECK.eq("24 rows", x.rows(size), 24);
            CHECK.eq("that close", x.closes(size), true);
            CHECK.eq("the row 0", x.loops(size, 0), 30);
            CHECK.eq("the row 1", x.loops(size, 1), 60);
            CHECK.eq("the row 24", x.loops(size, 24), 60);
        }
        Stitchwright y = Told.castOn(40);
        CHECK.eq("40 cast on", y.loops(2, 0), 40);
        Told.add(y, "[o]");
        CHECK.eq("a row without loops", y.loops(2, 1), 0);
        CHECK.eq("is a row", y.rows(2), 1);
        Told.add(y, "k0");
        CHECK.eq("none behind it", y.rows(2), 1);
        CHECK.fails("so it has none", NONE, () -> y.loops(2, 2));
    }

    // 12 to 17: stitch, seen, colourOf, parent, children, isBound

    private static void firstAndLastLoops() {
        Stitchwright x = largest();
        x.setFlat(2, true);
        Told.replace(x, 23, "p[k]1dp");
        for (int size = 0; size < 3; size += 2) {
            boolean isFlat = size == 2;
            CHECK.eq("row 0, first", x.stitch(size, 0, 0), 'c');
            CHECK.eq("row 0, last", x.stitch(size, 0, 29), 'c');
            CHECK.eq("row 0 is seen as it is", x.seen(size, 0, 29), 'c');
            CHECK.eq("row 0, colour", x.colourOf(size, 0, 29), 'a');
            CHECK.eq("row 0, two come of it", x.children(size, 0, 29), 2);
            CHECK.eq("row 23, first", x.stitch(size, 23, 0), 'p');
            CHECK.eq("row 23, last", x.seen(size, 23, 59), 'p');
            CHECK.eq("row 23, last but one", x.stitch(size, 23, 58), 'k');
            CHECK.eq("row 23, colour of the last", x.colourOf(size, 23, 59), 'd');
            CHECK.eq("row 24, first", x.stitch(size, 24, 0), isFlat ? 'x' : 'k');
            CHECK.eq("row 24, last", x.stitch(size, 24, 59), isFlat ? 'k' : 'x');
            CHECK.eq("row 24, last as it is seen", x.seen(size, 24, 59), isFlat ? 'p' : 'x');
            CHECK.eq("row 24, colour of the first", x.colourOf(size, 24, 0), isFlat ? 'd' : 'a');
            CHECK.eq("row 24, colour of the last", x.colourOf(size, 24, 59), isFlat ? 'a' : 'd');
            CHECK.eq("row 24, none comes of the last", x.children(size, 24, 59), 0);
            CHECK.eq("nor is it bound off", x.isBound(size, 24, 59), false);
            CHECK.eq("row 23, one comes of the last", x.children(size, 23, 59), 1);
        }
        Told.replace(x, 24, "o[k]1o");
        CHECK.eq("row 23, the first is bound off", x.isBound(0, 23, 0), true);
        CHECK.eq("row 23, the last is bound off", x.isBound(0, 23, 59), true);
        CHECK.eq("none comes of it", x.children(0, 23, 59), 0);
        CHECK.eq("row 23, the last but one is not", x.isBound(0, 23, 58), false);
    }

    // 15: "0 for the first one, 1 for the second one" "NoSuchElementException if it comes of fewer"

    private static void parents() {
        Stitchwright x = largest();
        CHECK.eq("row 1, first", x.parent(0, 1, 0, 0), 0);
        CHECK.eq("row 1, last", x.parent(0, 1, 59, 0), 29);
        CHECK.eq("row 24, first", x.parent(0, 24, 0, 0), 0);
        CHECK.eq("row 24, last", x.parent(0, 24, 59, 0), 58);
        Told.replace(x, 24, "t[k]2s");
        CHECK.eq("t, first one", x.parent(0, 24, 0, 0), 0);
        CHECK.eq("t, second one", x.parent(0, 24, 0, 1), 1);
        CHECK.eq("s, first one", x.parent(0, 24, 57, 0), 58);
        CHECK.eq("s, second one", x.parent(0, 24, 57, 1), 59);
        for (String row : new String[] {"k", "p", "l", "w", "f"}) {
            Stitchwright one = Told.knit(1, row);
            CHECK.eq("of one by " + row, one.parent(0, 1, 0, 0), 0);
            CHECK.fails("of no second by " + row, NONE, () -> one.parent(0, 1, 0, 1));
        }
        for (String row : new String[] {"x", "z"}) {
            Stitchwright two = Told.knit(2, row);
            CHECK.eq("of one by " + row, two.parent(0, 1, 0, 0), 1);
            CHECK.fails("of no second by " + row, NONE, () -> two.parent(0, 1, 0, 1));
            CHECK.fails("nor the other", NONE, () -> two.parent(0, 1, 1, 1));
        }
        for (String row : new String[] {"yo", "mo"}) {
            Stitchwright none = Told.knit(1, row);
            CHECK.fails("of none by " + row, NONE, () -> none.parent(0, 1, 0, 0));
        }
        Stitchwright held = Told.flat(2, "k/");
        CHECK.eq("h of itself", held.parent(0, 1, 1, 0), 1);
        CHECK.fails("and of no other", NONE, () -> held.parent(0, 1, 1, 1));
    }

    // 18 and 19: "Returns how many loops fall if one of the last row is dropped, this one too."

    private static void firstAndLastDropped() {
        Stitchwright x = largest();
        CHECK.eq("the first: 24 loops, the cast-on one held by its other", x.unravel(0, 0), 24);
        CHECK.eq("the last: 24 loops", x.unravel(0, 59), 24);
        CHECK.eq("the last falls itself", x.falls(0, 59, 24, 59), true);
        CHECK.eq("and the one that it comes of", x.falls(0, 59, 23, 58), true);
        CHECK.eq("and not the one above that", x.falls(0, 59, 23, 59), false);
        CHECK.eq("down to the row 1", x.falls(0, 0, 1, 0), true);
        CHECK.eq("not to the row 0", x.falls(0, 0, 0, 0), false);
        Told.replace(x, 2, "[t]");
        Told.replace(x, 24, "[k]");
        CHECK.eq("three rows, 30 loops", x.loops(0, 2), 30);
        CHECK.eq("the last of 30", x.unravel(0, 29), 23 + 2 + 1);
        CHECK.eq("down to the row 0", x.falls(0, 29, 0, 29), true);
        Stitchwright one = Told.castOn(1);
        CHECK.eq("a row 0 of one loop", one.unravel(0, 0), 1);
        CHECK.eq("which falls", one.falls(0, 0, 0, 0), true);
    }

    // 20: "Returns of which cast-on loop a loop comes, over first parents alone."

    private static void roots() {
        Stitchwright x = largest();
        CHECK.eq("the first", x.rootOf(0, 24, 0), 0);
        CHECK.eq("the last", x.rootOf(0, 24, 59), 29);
        CHECK.eq("of the row 1", x.rootOf(0, 1, 59), 29);
        CHECK.eq("a cast-on loop is its own", x.rootOf(0, 0, 29), 29);
        CHECK.eq("the first too", x.rootOf(0, 0, 0), 0);
        Told.replace(x, 1, "y20[k]y10");
        CHECK.fails("the first comes of none", NONE, () -> x.rootOf(0, 24, 0));
        CHECK.fails("the loop 19 too", NONE, () -> x.rootOf(0, 24, 19));
        CHECK.eq("the loop 20 of the first", x.rootOf(0, 24, 20), 0);
        CHECK.eq("the loop 49 of the last", x.rootOf(0, 24, 49), 29);
        CHECK.fails("the loop 50 of none", NONE, () -> x.rootOf(0, 24, 50));
        CHECK.fails("the last of none", NONE, () -> x.rootOf(0, 24, 59));
    }

    // 22: "another size, or the same one"

    private static void alike() {
        Stitchwright x = Told.castOn(8);
        x.setNumber('A', 1, 2);
        for (int row = 1; row <= 24; row++) {
            Told.add(x, row == 24 ? "[x]" : "[z]");
        }
        for (int size = 0; size < 3; size++) {
            for (int row : new int[] {0, 1, 23, 24}) {
                for (int other : new int[] {0, 1, 22, 23, 24}) {
                    boolean due = row == other || row + other == 46 && row > 1 && other > 1;
                    CHECK.eq("the same size, " + row + " and " + other, x.areAlike(size, row, size, other), due);
                }
            }
        }
        CHECK.eq("other sizes", x.areAlike(0, 24, 2, 22), true);
        CHECK.eq("and back", x.areAlike(2, 22, 0, 24), true);
        CHECK.eq("not these", x.areAlike(2, 22, 0, 23), false);
    }

    // 23: "Returns whether it is marked now."

    private static void mark() {
        Stitchwright x = largest();
        int marked = 0;
        for (int[] at : new int[][] {{0, 0, 0}, {0, 0, 29}, {1, 1, 59}, {2, 24, 0}, {2, 24, 59}, {0, 24, 59}}) {
            CHECK.eq("marked", x.mark(at[0], at[1], at[2]), true);
            CHECK.eq("not any more", x.mark(at[0], at[1], at[2]), false);
            CHECK.eq("marked again", x.mark(at[0], at[1], at[2]), true);
            marked++;
        }
        CHECK.eq("six marks", marked, 6);
        CHECK.eq("two in the last row", x.undone(2), 2);
        CHECK.eq("down from the row 1", x.undone(1), 24);
        CHECK.eq("from the row 0, and one in the last row, which comes of them", x.undone(0), 2 + 24 * 4);
    }

    // 24: "marks on loops that are not there are of no meaning"

    private static void undone() {
        Stitchwright x = largest();
        for (int place = 0; place < 30; place++) {
            x.mark(0, 0, place);
        }
        CHECK.eq("all loops", x.undone(0), 30 + 24 * 60);
        CHECK.eq("none in the others", x.undone(1) + x.undone(2), 0);
        x.setNumber('A', 0, 0);
        CHECK.eq("no loops", x.undone(0), 0);
        x.setNumber('A', 0, 1);
        CHECK.eq("one loop there, and all that come of it: the row 24 is not in the fabric", x.undone(0), 1 + 23 * 2);
        Stitchwright y = Told.knit(3, "k3", "k3");
        y.mark(0, 2, 2);
        y.mark(0, 1, 0);
        CHECK.eq("two marks", y.undone(0), 3);
        Told.replace(y, 2, "kt");
        CHECK.eq("one of them on no loop", y.undone(0), 2);
        Told.replace(y, 1, "k2");
        CHECK.eq("both on none", y.undone(0), 0);
    }

    // 25: "the colour, or '*' for all"

    private static void yarn() {
        Stitchwright x = largest();
        int[] row24 = {58 * 3, 0, 10};
        for (int colour = 0; colour < 3; colour++) {
            int rest = colour == 0 ? 60 + 22 * 180 + 180 : 0;
            CHECK.eq("yarn of a colour", x.yarn(0, "abd".charAt(colour)), rest + row24[colour]);
        }
        CHECK.eq("all", x.yarn(0, '*'), 60 + 22 * 180 + 180 + 184);
        Stitchwright y = Told.knit(5, "bodokab", "boda");
        CHECK.eq("a row that does not close takes none", y.yarn(0, '*'), 10);
        Told.replace(y, 1, "boodkkado");
        CHECK.eq("a", y.yarn(0, 'a'), 10);
        CHECK.eq("b", y.yarn(0, 'b'), 4);
        CHECK.eq("d", y.yarn(0, 'd'), 8);
        CHECK.eq("all three", y.yarn(0, '*'), 22);
    }

    // 26, 28, 31: "Returns the length before." "Returns the limit before." "Returns the number before."

    private static void limits() {
        Stitchwright x = Told.empty();
        int before = 100;
        for (int length : new int[] {10, 11, 999, 998, 100, 10, 10}) {
            CHECK.eq("ball of " + length, x.setBall(length), before);
            before = length;
        }
        before = 4;
        for (int limit : new int[] {1, 2, 20, 19, 4, 1, 1}) {
            CHECK.eq("float of " + limit, x.setFloat(limit), before);
            before = limit;
        }
        before = 20;
        for (int loops : new int[] {1, 2, 60, 59, 20, 1, 1}) {
            CHECK.eq("gauge of " + loops, x.setGauge(loops), before);
            before = loops;
        }
        CHECK.fails("9", ARGUMENT, () -> x.setBall(9));
        CHECK.fails("0", ARGUMENT, () -> x.setFloat(0));
        CHECK.fails("61", ARGUMENT, () -> x.setGauge(61));
        CHECK.eq("each has its own: balls", x.setBall(999), 10);
        CHECK.eq("floats", x.setFloat(20), 1);
        CHECK.eq("gauge", x.setGauge(60), 1);
    }

    // 27: "the number of the ball, from 0"

    private static void ballEnd() {
        for (int length : new int[] {10, 100, 999}) {
            Stitchwright x = largest();
            x.setBall(length);
            int used = x.yarn(1, 'a');
            int balls = used / length;
            CHECK.eq("the last ball of " + length, x.ballEnd(1, 'a', balls - 1) > 0, true);
            CHECK.fails("one more of " + length, NONE, () -> x.ballEnd(1, 'a', balls));
            int row = 0;
            int sum = 60;
            for (int ball = 0; ball < balls; ball += Math.max(1, balls / 40)) {
                while (sum < (ball + 1) * length) {
                    row++;
                    sum += row == 24 ? 174 : 180;
                }
                CHECK.eq("ball " + ball + " of " + length, x.ballEnd(1, 'a', ball), row);
            }
        }
        Stitchwright x = Told.castOn(5);
        x.setBall(10);
        CHECK.eq("just the row 0", x.ballEnd(0, 'a', 0), 0);
        x.setNumber('A', 0, 4);
        CHECK.fails("8 of 10", NONE, () -> x.ballEnd(0, 'a', 0));
    }

    // 29: "Returns how many loops it has, 0 without floats."

    private static void longest() {
        Stitchwright x = Told.knit(30, "[f]");
        for (int row = 2; row <= 24; row++) {
            Told.add(x, row == 24 ? "bk[dk]1bk" : "[k]");
        }
        CHECK.eq("in the row 24", x.longest(0, 24), 58);
        CHECK.eq("in the row 23", x.longest(0, 23), 0);
        CHECK.eq("in the row 0", x.longest(0, 0), 0);
        CHECK.eq("in a row without loops", Told.knit(3, "bo3").longest(0, 1), 0);
        CHECK.eq("in a row of one loop", Told.knit(1, "bk").longest(0, 1), 0);
        CHECK.eq("in a row of three loops", Told.knit(3, "bkakbk").longest(0, 1), 1);
    }

    // 32: "Returns the loops times 100 divided by the gauge, rounded down."

    private static void width() {
        Stitchwright x = largest();
        for (int gauge = 1; gauge <= 60; gauge++) {
            x.setGauge(gauge);
            CHECK.eq("60 loops at " + gauge, x.width(0, 24), 6000 / gauge);
            CHECK.eq("30 loops at " + gauge, x.width(0, 0), 3000 / gauge);
        }
        Stitchwright y = Told.castOn(0);
        for (int loops = 0; loops <= 40; loops++) {
            y.setNumber('A', 0, loops);
            CHECK.eq("20 are 100 wide: " + loops, y.width(0, 0), loops * 5);
        }
        CHECK.eq("none are 0 wide", Told.knit(3, "o3").width(0, 1), 0);
    }

    // 34: "Returns how many loops it has."

    private static void hang() {
        Stitchwright x = Told.castOn(16);
        x.setNumber('A', 1, 1);
        x.setNumber('A', 2, 0);
        CHECK.eq("16", x.hang(0), 16);
        CHECK.eq("1", x.hang(1), 1);
        CHECK.eq("0", x.hang(2), 0);
        CHECK.fails("nothing is left on it", NONE, () -> x.onNeedle(true, 0, 0));
        CHECK.eq("16 again", x.hang(0), 16);
        CHECK.eq("the last one", x.onNeedle(true, 15, 0), 15);
        Told.add(x, "[t]0[k]");
        CHECK.eq("what hangs stays", x.onNeedle(true, 15, 0), 15);
        CHECK.eq("8", x.hang(0), 8);
        CHECK.fails("seven is the last one", NONE, () -> x.onNeedle(true, 8, 0));
    }

    // 35: "Returns the racking before."

    private static void rack() {
        Stitchwright x = Told.castOn(16);
        int before = 0;
        for (int racking : new int[] {-3, 3, 2, -2, -3, -3, 0, 1, 3}) {
            CHECK.eq("an empty machine to " + racking, x.rack(racking), before);
            before = racking;
        }
        x.hang(2);
        before = 0;
        for (int racking : new int[] {3, -3, -1, 1, 2, -2, 0}) {
            CHECK.eq("a full bed to " + racking, x.rack(racking), before);
            before = racking;
        }
        for (int needle = 0; needle < 16; needle++) {
            x.transfer(true, needle);
        }
        for (int racking : new int[] {3, -3, -1, 1, 2, -2, 0}) {
            CHECK.eq("a full back bed to " + racking, x.rack(racking), before);
            before = racking;
        }
    }

    // 36: "Returns how many loops the needle opposite holds then."

    private static void transfer() {
        for (int needle : new int[] {0, 1, 14, 15}) {
            Stitchwright x = Told.castOn(16);
            x.hang(0);
            CHECK.eq("front " + needle, x.transfer(true, needle), 1);
            CHECK.fails("it holds none", NONE, () -> x.transfer(true, needle));
            CHECK.eq("back " + needle, x.transfer(false, needle), 1);
            CHECK.fails("nor does this", NONE, () -> x.transfer(false, needle));
        }
        Stitchwright x = Told.castOn(3);
        x.hang(0);
        x.transfer(true, 1);
        x.rack(-1);
        CHECK.eq("one and one", x.transfer(false, 1), 2);
        CHECK.eq("one and none", x.transfer(true, 2), 1);
        x.rack(-3);
        CHECK.eq("none at -3", Check.answer(() -> x.transfer(false, 2)), "NoSuchElementException");
    }

    // 37: "0 for the one that came first, and so on"

    private static void onNeedle() {
        Stitchwright x = Told.castOn(16);
        x.hang(0);
        x.transfer(true, 14);
        x.rack(1);
        x.transfer(false, 14);
        x.rack(0);
        x.transfer(true, 13);
        x.rack(2);
        CHECK.eq("three on the front needle 15", x.transfer(false, 13), 3);
        CHECK.eq("15 came first", x.onNeedle(true, 15, 0), 15);
        CHECK.eq("then 14", x.onNeedle(true, 15, 1), 14);
        CHECK.eq("then 13", x.onNeedle(true, 15, 2), 13);
        CHECK.fails("no fourth one", NONE, () -> x.onNeedle(true, 15, 3));
        x.rack(0);
        CHECK.eq("all three by one transfer", x.transfer(true, 15), 3);
        CHECK.eq("in their order", x.onNeedle(false, 15, 0), 15);
        CHECK.eq("to the last one", x.onNeedle(false, 15, 2), 13);
        CHECK.eq("the front needle 0", x.onNeedle(true, 0, 0), 0);
        CHECK.fails("it has no second one", NONE, () -> x.onNeedle(true, 0, 1));
        CHECK.fails("the back needle 0 has none", NONE, () -> x.onNeedle(false, 0, 0));
    }

    // 38: "Returns the number of acts, 0 at first."

    private static void acts() {
        Stitchwright x = Told.castOn(4);
        CHECK.eq("before any hanging", x.acts(), 0);
        x.hang(0);
        for (int done = 0; done < 200; done += 2) {
            x.transfer(done % 4 == 0, 1);
            x.rack(done % 4 == 0 ? 1 : 0);
            if (done % 4 == 0) {
                x.rack(0);
                x.rack(0);
            }
        }
        CHECK.eq("100 transfers, 50 times to 1 and back, nothing else", x.acts(), 200);
        CHECK.eq("as it was", x.onNeedle(true, 1, 0), 1);
        x.hang(1);
        CHECK.eq("0 since", x.acts(), 0);
    }

    // 39: "the lower needle, 0 to 14" "Returns the number of acts, at most 8."

    private static void leastActs() {
        Stitchwright x = Told.castOn(16);
        x.hang(0);
        for (int needle = 0; needle <= 14; needle++) {
            int acts = x.leastActs(needle);
            CHECK.eq("at most 8 at " + needle, acts >= 1 && acts <= 8, true);
        }
        CHECK.eq("nothing was done by that", x.acts(), 0);
        CHECK.eq("nor moved", x.onNeedle(true, 0, 0), 0);
        CHECK.eq("nor racked", x.rack(0), 0);
        Stitchwright two = Told.castOn(2);
        two.hang(0);
        CHECK.eq("the first two alone", two.leastActs(0) <= 8, true);
        CHECK.fails("none on the needle 2", UnsupportedOperationException.class, () -> two.leastActs(1));
        CHECK.fails("none on the needle 15", UnsupportedOperationException.class, () -> x.transfer(true, 15) + x.leastActs(14));
    }

    // 40 to 43

    private static void figures() {
        Stitchwright x = largest();
        long sum = 0;
        for (int size = 0; size < 3; size++) {
            sum = sum * 31 + 30;
            for (int row = 1; row <= 24; row++) {
                sum = sum * 31 + 60;
            }
        }
        CHECK.eq("checksum of the largest fabrics", x.checksum(), sum);
        CHECK.eq("their mean", x.meanLoops(), (double) (3 * (30 + 24 * 60)) / (double) 75);
        CHECK.eq("all close", x.closedShare(), 3f / 3f);
        CHECK.eq("sound", x.isSound(), true);
        for (int closing = 3; closing >= 0; closing--) {
            CHECK.eq(closing + " close", x.closedShare(), (float) closing / 3f);
            if (closing > 0) {
                x.setNumber('A', closing - 1, 0);
            }
        }
        CHECK.eq("nothing again", x.checksum(), 0L);
        CHECK.eq("no loops in three rows", x.meanLoops(), 0.0);
        x.setNumber('A', 2, 1);
        Told.replace(x, 2, "k3");
        CHECK.eq("one loop in the row 0, two in the row 1", x.checksum(), 33L);
        CHECK.eq("three loops in four rows", x.meanLoops(), 0.75);
        CHECK.eq("none closes", x.closedShare(), 0f);
        CHECK.eq("still sound", x.isSound(), true);
    }
}
