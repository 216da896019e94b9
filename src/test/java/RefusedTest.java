import java.util.HashMap;
import java.util.List;
import java.util.Map;
import java.util.NoSuchElementException;
import java.util.function.Function;
import java.util.function.Supplier;

/**
 * "A method that throws an exception changes nothing. If several exceptions apply, the one that is
 * documented first is thrown." Each refused call of the face: the last value that is refused on
 * each side, the values far off, each two exceptions that can apply together, and behind each of
 * them all answers of the object as they were before.
 */
public final class RefusedTest {
    private static final Check CHECK = new Check("RefusedTest");
    private static final Class<IllegalArgumentException> ARGUMENT = IllegalArgumentException.class;
    private static final Class<IllegalStateException> STATE = IllegalStateException.class;
    private static final Class<IndexOutOfBoundsException> INDEX = IndexOutOfBoundsException.class;
    private static final Class<NoSuchElementException> NONE = NoSuchElementException.class;
    private static final Class<UnsupportedOperationException> UNSUPPORTED = UnsupportedOperationException.class;
    private static final int MIN = Integer.MIN_VALUE;
    private static final int MAX = Integer.MAX_VALUE;
    private static final int[] NO_SIZES = {-1, 3, MIN, MAX};

    private static final Supplier<Stitchwright> NEW = Stitchwright::new;
    private static final Supplier<Stitchwright> BUSY = RefusedTest::busy;
    private static final Supplier<Stitchwright> FULL = RefusedTest::full;
    private static final Map<Supplier<Stitchwright>, List<String>> BEFORE = new HashMap<>();

    public static void main(String[] args) {
        type();
        addRow();
        replace();
        setNumber();
        sizesAlone();
        rowsOfSizes();
        loopsOfRows();
        parentAndRoot();
        lastRow();
        areAlike();
        yarnAndBalls();
        limits();
        shapeRow();
        hang();
        rack();
        transfer();
        onNeedle();
        leastActs();
        CHECK.end();
    }

    private static void refuse(String what, Class<? extends RuntimeException> due, Supplier<Stitchwright> scene,
            Function<Stitchwright, ?> call) {
        List<String> before = BEFORE.computeIfAbsent(scene, Answers::of);
        CHECK.fails(what, due, () -> call.apply(scene.get()));
        CHECK.eq(what + " changes nothing", Answers.of(() -> {
            Stitchwright x = scene.get();
            Check.answer(() -> call.apply(x));
            return x;
        }), before);
    }

    // What is refused in different states

    /** Three sizes of 6, 7 and 4 loops and two rows, one of them flat; marks, measures, a machine in use, an open buffer. */
    private static Stitchwright busy() {
        Stitchwright x = new Stitchwright();
        x.setNumber('A', 0, 6);
        x.setNumber('A', 1, 7);
        x.setNumber('A', 2, 4);
        x.setNumber('B', 0, 2);
        x.setNumber('C', 1, 40);
        x.setNumber('D', 2, 1);
        x.setFlat(1, true);
        Told.add(x, "[kp]1b[k]");
        Told.add(x, "tyo[w]2ds");
        x.mark(0, 0, 1);
        x.mark(1, 1, 2);
        x.setBall(20);
        x.setFloat(1);
        x.setGauge(7);
        x.hang(0);
        x.transfer(true, 1);
        x.rack(1);
        x.transfer(false, 1);
        x.transfer(true, 3);
        Told.buffer(x, "k2(p");
        return x;
    }

    /** 24 rows over 2, 3 and 40 loops, and 60 signs that are a row. */
    private static Stitchwright full() {
        return fullWith("k".repeat(60));
    }

    private static Stitchwright fullWith(String buffer) {
        Stitchwright x = Told.castOn(40);
        x.setNumber('A', 0, 2);
        x.setNumber('A', 1, 3);
        for (int row = 1; row <= 24; row++) {
            Told.add(x, "[k]");
        }
        Told.buffer(x, buffer);
        return x;
    }

    private static Supplier<Stitchwright> busyWith(String buffer) {
        return () -> {
            Stitchwright x = busy();
            Told.buffer(x, buffer);
            return x;
        };
    }

    // Words and sizes

    private static void type() {
        for (char sign : new char[] {'q', 'c', 'h', 'n', 'E', '@', '*', '-', '.', ':', '{', '\\', ' ', '\n', 0, 127, 255, 0xFFFF,
            'k' + 256, '0' - 256 + 65536}) {
            refuse("type " + (int) sign, ARGUMENT, BUSY, x -> x.type(sign));
        }
        refuse("the sign 61", STATE, FULL, x -> x.type('k'));
        refuse("the sign 61 by which it would be no row", STATE, FULL, x -> x.type('('));
        refuse("a sign 61 that is none", ARGUMENT, FULL, x -> x.type('q'));
    }

    private static void addRow() {
        refuse("nothing as a row", ARGUMENT, NEW, Stitchwright::addRow);
        refuse("an open buffer", ARGUMENT, BUSY, Stitchwright::addRow);
        refuse("a wrong sign in it", ARGUMENT, busyWith("k/p"), Stitchwright::addRow);
        refuse("the row 25", STATE, FULL, Stitchwright::addRow);
        Supplier<Stitchwright> empty = () -> fullWith("");
        refuse("nothing as the row 25", ARGUMENT, empty, Stitchwright::addRow);
        Supplier<Stitchwright> open = () -> fullWith("(k");
        refuse("an open buffer as the row 25", ARGUMENT, open, Stitchwright::addRow);
    }

    private static void replace() {
        Supplier<Stitchwright> right = busyWith("[p]");
        for (int row : new int[] {0, -1, 3, 25, MIN, MAX}) {
            refuse("replace the row " + row, INDEX, right, x -> x.replace(row));
            refuse("replace the row " + row + " by no row", INDEX, BUSY, x -> x.replace(row));
        }
        refuse("no row 1", INDEX, NEW, x -> x.replace(1));
        refuse("replace the row 1 by no row", ARGUMENT, BUSY, x -> x.replace(1));
        refuse("replace the row 2 by no row", ARGUMENT, BUSY, x -> x.replace(2));
        refuse("replace by nothing", ARGUMENT, busyWith(""), x -> x.replace(1));
        refuse("replace the row 25", INDEX, FULL, x -> x.replace(25));
        refuse("replace the row 0 of 24", INDEX, FULL, x -> x.replace(0));
    }

    private static void setNumber() {
        for (char letter : new char[] {'@', 'E', 'a', 'b', 'd', '0', 0, 0xFFFF, 'A' + 256}) {
            refuse("letter " + (int) letter, ARGUMENT, BUSY, x -> x.setNumber(letter, 0, 5));
            refuse("letter and size", ARGUMENT, BUSY, x -> x.setNumber(letter, 3, 5));
        }
        for (int number : new int[] {-1, 41, MIN, MAX}) {
            for (char letter : "AD".toCharArray()) {
                refuse("number " + number, ARGUMENT, BUSY, x -> x.setNumber(letter, 1, number));
                refuse("number and size", ARGUMENT, BUSY, x -> x.setNumber(letter, -1, number));
            }
            refuse("number and letter", ARGUMENT, BUSY, x -> x.setNumber('E', 1, number));
        }
        for (int size : NO_SIZES) {
            refuse("setNumber in size " + size, INDEX, BUSY, x -> x.setNumber('A', size, 5));
            refuse("setNumber in size " + size, INDEX, BUSY, x -> x.setNumber('D', size, 0));
        }
    }

    /** The calls that need a size and nothing else that is looked at before it. */
    private static void sizesAlone() {
        for (int size : NO_SIZES) {
            refuse("setFlat in size " + size, INDEX, BUSY, x -> x.setFlat(size, true));
            refuse("setFlat in size " + size, INDEX, BUSY, x -> x.setFlat(size, false));
            refuse("rows of size " + size, INDEX, BUSY, x -> x.rows(size));
            refuse("closes of size " + size, INDEX, BUSY, x -> x.closes(size));
            refuse("crossings of size " + size, INDEX, BUSY, x -> x.crossings(size));
            refuse("undone of size " + size, INDEX, BUSY, x -> x.undone(size));
            refuse("catches of size " + size, INDEX, BUSY, x -> x.catches(size));
            refuse("hang size " + size, INDEX, BUSY, x -> x.hang(size));
        }
    }

    // The fabric

    private static void rowsOfSizes() {
        for (int size : NO_SIZES) {
            for (int row : new int[] {0, 9, -1}) {
                refuse("loops of size " + size, INDEX, BUSY, x -> x.loops(size, row));
                refuse("width of size " + size, INDEX, BUSY, x -> x.width(size, row));
                refuse("longest of size " + size, INDEX, BUSY, x -> x.longest(size, row));
            }
        }
        for (int row : new int[] {-1, 3, 25, MIN, MAX}) {
            refuse("loops of row " + row, NONE, BUSY, x -> x.loops(1, row));
            refuse("width of row " + row, NONE, BUSY, x -> x.width(1, row));
            refuse("longest of row " + row, NONE, BUSY, x -> x.longest(1, row));
        }
        refuse("loops of the row 25", NONE, FULL, x -> x.loops(2, 25));
        refuse("width of the row 25", NONE, FULL, x -> x.width(2, 25));
        refuse("longest of the row 25", NONE, FULL, x -> x.longest(2, 25));
        Supplier<Stitchwright> behind = () -> Told.knit(3, "k3", "k2", "k3");
        refuse("loops of a row that does not close", NONE, behind, x -> x.loops(0, 2));
        refuse("width of a row that does not close", NONE, behind, x -> x.width(0, 2));
        refuse("longest of a row that does not close", NONE, behind, x -> x.longest(0, 2));
        refuse("loops of a row behind it", NONE, behind, x -> x.loops(0, 3));
    }

    /** Size, row and place: the last ones of size 1 are the row 2 and its place 4. */
    private static void loopsOfRows() {
        int[][] none = {{3, 0, 0}, {-1, 0, 0}, {MIN, 2, 3}, {MAX, 2, 3}, {1, -1, 0}, {1, 3, 0}, {1, MIN, 0}, {1, MAX, 0},
            {1, 25, 0}, {1, 0, 7}, {1, 0, -1}, {1, 1, 7}, {1, 2, 5}, {1, 2, -1}, {1, 2, 60}, {1, 2, MIN}, {1, 2, MAX},
            {1, 0, 60}, {0, 71582788, 16}};
        for (int[] at : none) {
            String of = " of " + at[0] + " " + at[1] + " " + at[2];
            refuse("stitch" + of, INDEX, BUSY, x -> x.stitch(at[0], at[1], at[2]));
            refuse("seen" + of, INDEX, BUSY, x -> x.seen(at[0], at[1], at[2]));
            refuse("colourOf" + of, INDEX, BUSY, x -> x.colourOf(at[0], at[1], at[2]));
            refuse("parent" + of, INDEX, BUSY, x -> x.parent(at[0], at[1], at[2], 0));
            refuse("parent 2" + of, INDEX, BUSY, x -> x.parent(at[0], at[1], at[2], 2));
            refuse("children" + of, INDEX, BUSY, x -> x.children(at[0], at[1], at[2]));
            refuse("isBound" + of, INDEX, BUSY, x -> x.isBound(at[0], at[1], at[2]));
            refuse("rootOf" + of, INDEX, BUSY, x -> x.rootOf(at[0], at[1], at[2]));
            refuse("mark" + of, INDEX, BUSY, x -> x.mark(at[0], at[1], at[2]));
            refuse("falls" + of, INDEX, BUSY, x -> x.falls(at[0], 0, at[1], at[2]));
        }
        Stitchwright x = busy();
        CHECK.eq("the last loop is there", x.stitch(1, 2, 4), 't');
        CHECK.eq("the last cast-on loop is there", x.stitch(1, 0, 6), 'c');
        refuse("a loop of a new object", INDEX, NEW, y -> y.stitch(0, 0, 0));
        refuse("a mark on a new object", INDEX, NEW, y -> y.mark(2, 0, 0));
        refuse("a loop of the row 25", INDEX, FULL, y -> y.stitch(2, 25, 0));
        refuse("the loop 40 of the row 24", INDEX, FULL, y -> y.mark(2, 24, 40));
        refuse("the loop 2 of the row 24", INDEX, FULL, y -> y.isBound(0, 24, 2));
    }

    private static void parentAndRoot() {
        refuse("the first parent of a cast-on loop", NONE, BUSY, x -> x.parent(0, 0, 0, 0));
        refuse("the second parent of a cast-on loop", NONE, BUSY, x -> x.parent(0, 0, 0, 1));
        refuse("the second parent of k", NONE, BUSY, x -> x.parent(0, 1, 0, 1));
        refuse("the first parent of y", NONE, BUSY, x -> x.parent(0, 2, 1, 0));
        refuse("the second parent of y", NONE, BUSY, x -> x.parent(0, 2, 1, 1));
        for (int which : new int[] {2, 3, -1, MIN, MAX}) {
            refuse("the parent " + which + " of t", NONE, BUSY, x -> x.parent(0, 2, 0, which));
            refuse("the parent " + which + " of y", NONE, BUSY, x -> x.parent(0, 2, 1, which));
        }
        refuse("the root of y", NONE, BUSY, x -> x.rootOf(0, 2, 1));
        Stitchwright x = busy();
        CHECK.eq("the second parent of t is there", x.parent(0, 2, 0, 1), 1);
        CHECK.eq("the root of t is there", x.rootOf(0, 2, 0), 0);
    }

    private static void lastRow() {
        for (int index : new int[] {-1, 5, 7, MIN, MAX}) {
            refuse("unravel " + index, INDEX, BUSY, x -> x.unravel(1, index));
            refuse("falls by " + index, INDEX, BUSY, x -> x.falls(1, index, 0, 0));
            refuse("falls by " + index + ", no loop either", INDEX, BUSY, x -> x.falls(1, index, 3, 0));
        }
        for (int size : NO_SIZES) {
            refuse("unravel of size " + size, INDEX, BUSY, x -> x.unravel(size, 0));
            refuse("falls of size " + size, INDEX, BUSY, x -> x.falls(size, 0, 0, 0));
        }
        Supplier<Stitchwright> bound = () -> Told.knit(3, "k3", "[o]");
        refuse("unravel nothing", INDEX, bound, x -> x.unravel(0, 0));
        refuse("falls by nothing", INDEX, bound, x -> x.falls(0, 0, 1, 0));
        refuse("unravel a new object", INDEX, NEW, x -> x.unravel(0, 0));
        refuse("falls of a new object", INDEX, NEW, x -> x.falls(0, 0, 0, 0));
    }

    private static Stitchwright braids() {
        Stitchwright x = Told.castOn(4);
        x.setNumber('A', 1, 9);
        x.setNumber('A', 2, 5);
        Told.add(x, "[x]0[k]");
        Told.add(x, "[kt]1[y]0[k]");
        return x;
    }

    private static void areAlike() {
        Supplier<Stitchwright> scene = RefusedTest::braids;
        CHECK.eq("alike", braids().areAlike(0, 1, 0, 1), true);
        for (int size : NO_SIZES) {
            refuse("alike: size " + size, INDEX, scene, x -> x.areAlike(size, 0, 0, 0));
            refuse("alike: other size " + size, INDEX, scene, x -> x.areAlike(0, 0, size, 0));
            refuse("alike: size and row", INDEX, scene, x -> x.areAlike(size, 9, 0, 9));
            refuse("alike: row and other size", INDEX, scene, x -> x.areAlike(0, 9, size, 9));
            refuse("alike: no braid and other size", INDEX, scene, x -> x.areAlike(1, 0, size, 0));
        }
        for (int row : new int[] {-1, 3, 25, MIN, MAX}) {
            refuse("alike: row " + row, NONE, scene, x -> x.areAlike(0, row, 2, 0));
            refuse("alike: other row " + row, NONE, scene, x -> x.areAlike(0, 0, 0, row));
            refuse("alike: row, and the other is no braid", NONE, scene, x -> x.areAlike(0, row, 1, 0));
            refuse("alike: no braid, and other row", NONE, scene, x -> x.areAlike(1, 0, 0, row));
        }
        refuse("alike: nine loops", UNSUPPORTED, scene, x -> x.areAlike(1, 0, 0, 0));
        refuse("alike: the other has nine loops", UNSUPPORTED, scene, x -> x.areAlike(0, 0, 1, 0));
        refuse("alike: nine loops in both", UNSUPPORTED, scene, x -> x.areAlike(1, 0, 1, 0));
        refuse("alike: four and five loops", UNSUPPORTED, scene, x -> x.areAlike(0, 0, 2, 0));
        refuse("alike: no braid from the row 2 on", UNSUPPORTED, scene, x -> x.areAlike(0, 2, 0, 1));
        refuse("alike: the other is none from the row 2 on", UNSUPPORTED, scene, x -> x.areAlike(0, 1, 0, 2));
        refuse("alike: a new object", UNSUPPORTED, NEW, x -> x.areAlike(0, 0, 1, 0));
    }

    // Mending and measures

    private static void yarnAndBalls() {
        for (int size : NO_SIZES) {
            refuse("yarn of size " + size, INDEX, BUSY, x -> x.yarn(size, 'a'));
            refuse("yarn of size " + size + " and no colour", INDEX, BUSY, x -> x.yarn(size, 'c'));
            refuse("ballEnd of size " + size, INDEX, BUSY, x -> x.ballEnd(size, 'a', 0));
            refuse("ballEnd of size " + size + " and no colour", INDEX, BUSY, x -> x.ballEnd(size, '*', 0));
            refuse("ballEnd of size " + size + " and no ball", INDEX, BUSY, x -> x.ballEnd(size, 'a', -1));
        }
        for (char colour : new char[] {'c', 'e', 'h', 'k', 'A', 'B', 'D', '`', '+', 0, 0xFFFF, 'a' + 256}) {
            refuse("yarn of colour " + (int) colour, ARGUMENT, BUSY, x -> x.yarn(0, colour));
            refuse("ballEnd of colour " + (int) colour, ARGUMENT, BUSY, x -> x.ballEnd(0, colour, 0));
            refuse("ballEnd of a colour, not used up either", ARGUMENT, BUSY, x -> x.ballEnd(0, colour, 999));
        }
        refuse("ballEnd of all colours", ARGUMENT, BUSY, x -> x.ballEnd(0, '*', 0));
        for (int ball : new int[] {-1, -2, MIN}) {
            refuse("ball " + ball, ARGUMENT, BUSY, x -> x.ballEnd(0, 'a', ball));
            refuse("ball " + ball + " of no colour", ARGUMENT, BUSY, x -> x.ballEnd(0, 'c', ball));
        }
        for (int ball : new int[] {2, 107374182, 214748364, 214748365, MAX}) {
            refuse("ball " + ball + " is not used up", NONE, BUSY, x -> x.ballEnd(0, 'a', ball));
        }
        refuse("no yarn of a new object", NONE, NEW, x -> x.ballEnd(0, 'a', 0));
    }

    private static void limits() {
        for (int length : new int[] {9, 1000, 0, -1, -10, MIN, MAX}) {
            refuse("ball of " + length, ARGUMENT, BUSY, x -> x.setBall(length));
        }
        for (int limit : new int[] {0, 21, -1, -4, MIN, MAX}) {
            refuse("float of " + limit, ARGUMENT, BUSY, x -> x.setFloat(limit));
        }
        for (int loops : new int[] {0, 61, -1, -20, MIN, MAX}) {
            refuse("gauge of " + loops, ARGUMENT, BUSY, x -> x.setGauge(loops));
        }
    }

    private static void shapeRow() {
        int[][] outOfRange = {{0, 1, 0}, {0, 0, 0}, {-1, 5, 0}, {41, 41, 0}, {41, 200, 40}, {40, 39, 0}, {2, 1, 0}, {1, 0, 0},
            {1, -1, 0}, {1, 201, 0}, {40, 201, 0}, {MIN, MIN, MIN}, {MAX, MAX, MAX}, {5, MAX, 0}, {MIN, 5, 0}};
        for (int[] told : outOfRange) {
            for (int index : new int[] {told[2], -1, told[0]}) {
                refuse("shaping of " + told[0] + " in " + told[1] + ", " + index, ARGUMENT, BUSY,
                        x -> x.shapeRow(told[0], told[1], index));
            }
        }
        int[][] noLoop = {{1, 1, 1}, {1, 1, -1}, {40, 40, 40}, {40, 200, -1}, {5, 5, 5}, {5, 200, MAX}, {5, 200, MIN}};
        for (int[] told : noLoop) {
            refuse("shaping of " + told[0] + ", " + told[2], INDEX, BUSY, x -> x.shapeRow(told[0], told[1], told[2]));
        }
    }

    // The machine

    private static Stitchwright hungWith(int loops, int racking, int... fronts) {
        Stitchwright x = Told.castOn(loops);
        x.setNumber('A', 1, 17);
        x.setNumber('A', 2, 40);
        x.hang(0);
        for (int front : fronts) {
            x.transfer(true, front);
        }
        x.rack(racking);
        return x;
    }

    private static void hang() {
        Supplier<Stitchwright> used = () -> hungWith(16, 2, 3, 5);
        refuse("hang 17 loops", UNSUPPORTED, used, x -> x.hang(1));
        refuse("hang 40 loops", UNSUPPORTED, used, x -> x.hang(2));
        for (int size : NO_SIZES) {
            refuse("hang the size " + size, INDEX, used, x -> x.hang(size));
        }
        refuse("hang 40 loops of the row 24", UNSUPPORTED, FULL, x -> x.hang(2));
    }

    private static void rack() {
        for (int racking : new int[] {4, -4, 5, 16, MIN, MAX}) {
            refuse("rack to " + racking, ARGUMENT, BUSY, x -> x.rack(racking));
            refuse("rack an empty machine to " + racking, ARGUMENT, NEW, x -> x.rack(racking));
        }
        Supplier<Stitchwright> high = () -> hungWith(4, 2, 2);
        refuse("2 at 5 is 4 from 1", UNSUPPORTED, high, x -> x.rack(3));
        refuse("2 at -1 is 4 from 3", UNSUPPORTED, high, x -> x.rack(-3));
        refuse("out of range, and too far apart", ARGUMENT, high, x -> x.rack(4));
        Supplier<Stitchwright> edge = () -> hungWith(16, 0, 15, 0);
        refuse("15 at 18 is 4 from 14", UNSUPPORTED, edge, x -> x.rack(3));
        refuse("0 at -3 is 4 from 1", UNSUPPORTED, edge, x -> x.rack(-3));
        refuse("15 at 18, out of range", ARGUMENT, edge, x -> x.rack(-4));
    }

    private static void transfer() {
        for (int needle : new int[] {-1, 16, 17, 31, 32, MIN, MAX}) {
            refuse("transfer from front " + needle, INDEX, BUSY, x -> x.transfer(true, needle));
            refuse("transfer from back " + needle, INDEX, BUSY, x -> x.transfer(false, needle));
            refuse("transfer on an empty machine", INDEX, NEW, x -> x.transfer(false, needle));
        }
        refuse("nothing on front 1", NONE, BUSY, x -> x.transfer(true, 1));
        refuse("nothing on back 0", NONE, BUSY, x -> x.transfer(false, 0));
        refuse("nothing on an empty machine", NONE, NEW, x -> x.transfer(true, 0));
        Supplier<Stitchwright> right = () -> hungWith(16, 1, 15);
        refuse("front 0 at the racking 1: none opposite", NONE, right, x -> x.transfer(true, 0));
        refuse("back 15 at the racking 1: none opposite", NONE, right, x -> x.transfer(false, 15));
        Supplier<Stitchwright> left = () -> hungWith(16, -1, 0);
        refuse("front 15 at the racking -1: none opposite", NONE, left, x -> x.transfer(true, 15));
        refuse("back 0 at the racking -1: none opposite", NONE, left, x -> x.transfer(false, 0));
        Supplier<Stitchwright> three = RefusedTest::threeAndOne;
        refuse("one to three", UNSUPPORTED, three, x -> x.transfer(false, 3));
        refuse("three to one", UNSUPPORTED, three, x -> x.transfer(true, 2));
        refuse("none to three", NONE, three, x -> x.transfer(false, 4));
        Supplier<Stitchwright> two = RefusedTest::twoAndTwo;
        refuse("two to two", UNSUPPORTED, two, x -> x.transfer(true, 1));
        refuse("two to two, the other way", UNSUPPORTED, two, x -> x.transfer(false, 1));
        Supplier<Stitchwright> end = RefusedTest::threeAtTheEnd;
        refuse("three, and none opposite", NONE, end, x -> x.transfer(true, 0));
    }

    /** Three on the front needle 2, one on the back needle 3, the racking -1. */
    private static Stitchwright threeAndOne() {
        Stitchwright x = hungWith(4, 1, 1, 0);
        x.transfer(false, 1);
        x.rack(2);
        x.transfer(false, 0);
        x.rack(0);
        x.transfer(true, 3);
        x.rack(-1);
        return x;
    }

    /** Two on the front needle 1, two on the back needle 1, the racking 0. */
    private static Stitchwright twoAndTwo() {
        Stitchwright x = hungWith(4, 1, 0, 2);
        x.transfer(false, 0);
        x.transfer(false, 2);
        x.rack(2);
        x.transfer(true, 3);
        x.rack(0);
        return x;
    }

    /** Five loops; the one of a front needle comes to that of the one beside it, the racking 0. */
    private static Stitchwright twoOnOne(int from, int to) {
        Stitchwright x = hungWith(5, to - from, from);
        x.transfer(false, from);
        x.rack(0);
        return x;
    }

    /** Three on the front needle 0, the racking 1. */
    private static Stitchwright threeAtTheEnd() {
        Stitchwright x = hungWith(3, -1, 1, 2);
        x.transfer(false, 1);
        x.rack(-2);
        x.transfer(false, 2);
        x.rack(1);
        return x;
    }

    private static void onNeedle() {
        for (int needle : new int[] {-1, 16, 31, MIN, MAX}) {
            for (int depth : new int[] {0, 3, -1}) {
                refuse("on front " + needle, INDEX, BUSY, x -> x.onNeedle(true, needle, depth));
                refuse("on back " + needle, INDEX, BUSY, x -> x.onNeedle(false, needle, depth));
            }
        }
        Supplier<Stitchwright> three = RefusedTest::threeAndOne;
        for (int depth : new int[] {3, 4, -1, MIN, MAX}) {
            refuse("the loop " + depth + " of three", NONE, three, x -> x.onNeedle(true, 2, depth));
            refuse("the loop " + depth + " of none", NONE, three, x -> x.onNeedle(true, 3, depth));
        }
        refuse("the loop 1 of one", NONE, three, x -> x.onNeedle(false, 3, 1));
        refuse("a loop of a new object", NONE, NEW, x -> x.onNeedle(false, 15, 0));
        Stitchwright x = threeAndOne();
        CHECK.eq("the third is there", x.onNeedle(true, 2, 2), 0);
        Stitchwright y = twoAndTwo();
        CHECK.eq("two on the front", y.onNeedle(true, 1, 1), 0);
        CHECK.eq("two on the back", y.onNeedle(false, 1, 1), 2);
    }

    private static void leastActs() {
        for (int needle : new int[] {-1, 15, 16, MIN, MAX}) {
            refuse("least acts of " + needle, INDEX, BUSY, x -> x.leastActs(needle));
            refuse("least acts of " + needle + " of an empty machine", INDEX, NEW, x -> x.leastActs(needle));
        }
        refuse("an empty machine", UNSUPPORTED, NEW, x -> x.leastActs(0));
        Supplier<Stitchwright> racked = () -> hungWith(4, 1);
        refuse("racked to 1", UNSUPPORTED, racked, x -> x.leastActs(0));
        Supplier<Stitchwright> back = () -> hungWith(4, -1);
        refuse("racked to -1", UNSUPPORTED, back, x -> x.leastActs(2));
        Supplier<Stitchwright> gap = () -> hungWith(4, 0, 2);
        refuse("none on the higher one", UNSUPPORTED, gap, x -> x.leastActs(1));
        refuse("none on the lower one", UNSUPPORTED, gap, x -> x.leastActs(2));
        refuse("none on the needle behind the last loop", UNSUPPORTED, gap, x -> x.leastActs(3));
        Supplier<Stitchwright> higher = () -> twoOnOne(3, 2);
        refuse("two on the higher one", UNSUPPORTED, higher, x -> x.leastActs(1));
        Supplier<Stitchwright> lower = () -> twoOnOne(1, 2);
        refuse("two on the lower one", UNSUPPORTED, lower, x -> x.leastActs(2));
        Supplier<Stitchwright> barred = RefusedTest::barred;
        refuse("it takes more than 8", NONE, barred, x -> x.leastActs(0));
        refuse("it takes more than 8, racked too", UNSUPPORTED, () -> {
            Stitchwright x = barred();
            x.rack(1);
            return x;
        }, x -> x.leastActs(0));
    }

    /** Other loops on the back needles 1 to 3. */
    private static Stitchwright barred() {
        Stitchwright x = Told.castOn(16);
        x.hang(0);
        x.rack(1);
        x.transfer(true, 2);
        x.transfer(true, 3);
        x.transfer(true, 4);
        x.rack(0);
        return x;
    }
}
