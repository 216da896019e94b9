import java.util.NoSuchElementException;

/**
 * The section "Terms" from "Machine" on to "Shaping", and the promises 33 to 39, sentence by
 * sentence: each needle, each racking, each number of loops on a needle, each distance.
 */
public final class MachineTermsTest {
    private static final Check CHECK = new Check("MachineTermsTest");
    private static final Class<NoSuchElementException> NONE = NoSuchElementException.class;
    private static final Class<UnsupportedOperationException> UNSUPPORTED = UnsupportedOperationException.class;

    public static void main(String[] args) {
        hungLoops();
        hungInPlace();
        opposite();
        mostOnANeedle();
        orderOnANeedle();
        apart();
        apartBeyondTheBed();
        neighboursAlone();
        transfersKeepTheirDistance();
        refusedRackings();
        eachAct();
        sinceTheLastHanging();
        leastOfEachPair();
        leastInTheWay();
        leastAndNeighbours();
        shaping();
        CHECK.end();
    }

    private static Stitchwright hung(int loops) {
        Stitchwright x = Told.castOn(loops);
        x.hang(0);
        return x;
    }

    /** Does acts: r with a racking, f with a front needle, b with a back one. */
    private static Stitchwright act(Stitchwright x, String acts) {
        for (String act : acts.split(" ")) {
            int number = Integer.parseInt(act.substring(1));
            if (act.charAt(0) == 'r') {
                x.rack(number);
            } else {
                x.transfer(act.charAt(0) == 'f', number);
            }
        }
        return x;
    }

    /** The loops on a needle, from the one that came first on. */
    private static String on(Stitchwright x, boolean isFront, int needle) {
        StringBuilder text = new StringBuilder();
        for (int depth = 0; depth < 4; depth++) {
            int of = depth;
            Object loop = Check.answer(() -> x.onNeedle(isFront, needle, of));
            text.append(loop instanceof Integer ? (text.length() == 0 ? "" : " ") + loop : "");
        }
        return text.toString();
    }

    // "The last row of a size is hung onto it: the loop i onto the front needle i, the racking being 0."
    // "UnsupportedOperationException if it has more than 16"

    private static void hungLoops() {
        for (int loops = 0; loops <= 40; loops++) {
            Stitchwright x = Told.castOn(loops);
            if (loops > 16) {
                CHECK.fails("hang " + loops, UNSUPPORTED, () -> x.hang(0));
            } else {
                CHECK.eq("hang " + loops, x.hang(0), loops);
            }
            for (int needle = 0; needle < 16; needle++) {
                boolean isThere = loops <= 16 && needle < loops;
                CHECK.eq("front " + needle + " of " + loops, on(x, true, needle), isThere ? "" + needle : "");
                CHECK.eq("back " + needle + " of " + loops, on(x, false, needle), "");
            }
        }
        CHECK.eq("16 in the last row, more in the row before", Told.knit(17, "k15t").hang(1), 16);
        Stitchwright more = Told.knit(16, "k16y");
        CHECK.fails("17 in the last row, fewer in the row before", UNSUPPORTED, () -> more.hang(1));
        Told.replace(more, 1, "k15");
        CHECK.eq("the last row that closes", more.hang(1), 16);
        CHECK.eq("a last row without loops", Told.knit(16, "[o]").hang(2), 0);
        CHECK.eq("a new object", Told.empty().hang(0), 0);
    }

    // "in place of what it held"

    private static void hungInPlace() {
        Stitchwright x = Told.castOn(16);
        x.setNumber('A', 1, 3);
        x.setNumber('A', 2, 0);
        x.hang(0);
        act(x, "f3 f15 r1 b3 r2");
        CHECK.eq("fewer loops", x.hang(1), 3);
        CHECK.eq("the racking is 0", x.rack(0), 0);
        for (int needle = 0; needle < 16; needle++) {
            CHECK.eq("front " + needle, on(x, true, needle), needle < 3 ? "" + needle : "");
            CHECK.eq("back " + needle, on(x, false, needle), "");
        }
        act(x, "f0 f1 f2 r3");
        CHECK.eq("none in place of three on the back bed", x.hang(2), 0);
        CHECK.eq("nothing there", on(x, false, 0) + on(x, false, 1) + on(x, false, 2), "");
        CHECK.eq("so any racking goes", x.rack(-3), 0);
        CHECK.eq("16 again", x.hang(0), 16);
        CHECK.eq("the last one", on(x, true, 15), "15");
    }

    // "the back needle n stands opposite the front needle n plus the racking" "A transfer brings all loops of a needle to
    // the one opposite." "NoSuchElementException if it holds none, or none is opposite"

    private static void opposite() {
        for (int racking = -3; racking <= 3; racking++) {
            for (int needle = 0; needle < 16; needle++) {
                Stitchwright x = act(hung(16), "r" + racking);
                oneTransfer(x, true, needle, needle - racking);
                Stitchwright y = hung(16);
                for (int front = 0; front < 16; front++) {
                    y.transfer(true, front);
                }
                CHECK.eq("all on the back bed: racked together", y.rack(racking), 0);
                oneTransfer(y, false, needle, needle + racking);
            }
        }
    }

    private static void oneTransfer(Stitchwright x, boolean isFront, int from, int to) {
        String what = (isFront ? "front " : "back ") + from + " to " + to;
        if (to < 0 || to > 15) {
            CHECK.fails(what, NONE, () -> x.transfer(isFront, from));
            CHECK.eq(what + ": it stays", on(x, isFront, from), "" + from);
        } else {
            CHECK.eq(what, x.transfer(isFront, from), 1);
            CHECK.eq(what + ": it is there", on(x, !isFront, to), "" + from);
            CHECK.eq(what + ": it is gone", on(x, isFront, from), "");
            CHECK.fails(what + ": again", NONE, () -> x.transfer(isFront, from));
        }
    }

    // "A needle holds at most 3 loops." "UnsupportedOperationException if the one opposite would hold more than 3"

    /** Brings the loops of some front needles, behind one another, to the front needle 3. */
    private static void gather(Stitchwright x, int... fronts) {
        for (int front : fronts) {
            act(x, "r0 f" + front + " r" + (3 - front) + " b" + front);
        }
        x.rack(0);
    }

    private static void mostOnANeedle() {
        for (int lower = 1; lower <= 3; lower++) {
            for (int higher = 0; higher <= 3; higher++) {
                Stitchwright x = hung(higher == 0 ? 4 : 4 + higher);
                gather(x, lower > 1 ? new int[] {2} : new int[0]);
                gather(x, lower > 2 ? new int[] {1} : new int[0]);
                if (higher > 0) {
                    gatherAbove(x, higher);
                    x.rack(0);
                    act(x, "f4 r-1");
                    meet(x, lower, higher);
                } else {
                    CHECK.eq(lower + " to none", x.transfer(true, 3), lower);
                }
            }
        }
    }

    /** Brings so many loops to the front needle 4: that of itself, of 5 and of 6. */
    private static void gatherAbove(Stitchwright x, int loops) {
        for (int front = 5; front < 4 + loops; front++) {
            act(x, "r0 f" + front + " r" + (4 - front) + " b" + front);
        }
    }

    /** Front 3 and back 4 are opposite one another. */
    private static void meet(Stitchwright x, int lower, int higher) {
        String what = lower + " and " + higher;
        if (lower + higher <= 3) {
            CHECK.eq(what, x.transfer(false, 4), lower + higher);
        } else {
            CHECK.fails(what, UNSUPPORTED, () -> x.transfer(false, 4));
            CHECK.fails(what + ", the other way", UNSUPPORTED, () -> x.transfer(true, 3));
            CHECK.eq(what + ": so many below", on(x, true, 3).length(), 2 * lower - 1);
            CHECK.eq(what + ": so many above", on(x, false, 4).length(), 2 * higher - 1);
        }
    }

    // "0 for the one that came first, and so on; those of one transfer stay in their order"

    private static void orderOnANeedle() {
        Stitchwright x = hung(7);
        gather(x, 4, 2);
        CHECK.eq("in the order in which they came", on(x, true, 3), "3 4 2");
        x.transfer(true, 3);
        CHECK.eq("of one transfer", on(x, false, 3), "3 4 2");
        Stitchwright y = hung(7);
        gather(y, 4);
        act(y, "f3 r-1 b3");
        CHECK.eq("two behind one", on(y, true, 2), "2 3 4");
        Stitchwright z = hung(7);
        gather(z, 2);
        act(z, "f1 r2 b1");
        CHECK.eq("one behind two", on(z, true, 3), "3 2 1");
    }

    // "Loops that are neighbours in that row, i and i + 1, must be at most 3 needles apart, a back needle counting as
    // the front needle opposite." "UnsupportedOperationException if loops would be too far apart"

    private static void apart() {
        for (int racking = -3; racking <= 3; racking++) {
            int to = racking;
            boolean lower = Math.abs(1 - racking) <= 3;
            boolean higher = Math.abs(1 + racking) <= 3;
            tryRack("the higher of two on the back bed", act(hung(2), "f1"), to, higher);
            tryRack("the lower of two on the back bed", act(hung(2), "f0"), to, lower);
            tryRack("the middle one of three", act(hung(3), "f1"), to, lower && higher);
            tryRack("the outer ones of three", act(hung(3), "f0 f2"), to, lower && higher);
            tryRack("both of two", act(hung(2), "f0 f1"), to, true);
            tryRack("none of two", hung(2), to, true);
            tryRack("one loop", act(hung(1), "f0"), to, true);
            tryRack("the last of 16", act(hung(16), "f15"), to, higher);
        }
        Stitchwright far = act(hung(2), "f1 r2 b1");
        CHECK.eq("3 apart on the front bed", on(far, true, 3), "1");
        tryRack("which any racking leaves alone", far, 3, true);
        act(far, "r0 f3");
        tryRack("4 apart", far, 1, false);
        tryRack("2 apart", far, -1, true);
        act(far, "b3 r0 f2");
        tryRack("2 and 1", far, 1, true);
        tryRack("2 and 2", far, 2, false);
    }

    private static void tryRack(String what, Stitchwright x, int racking, boolean isDue) {
        if (isDue) {
            CHECK.eq(what + ", " + racking, Check.answer(() -> x.rack(racking)) instanceof Integer, true);
            CHECK.eq(what + ", " + racking + " then", x.rack(racking), racking);
        } else {
            CHECK.fails(what + ", " + racking, UNSUPPORTED, () -> x.rack(racking));
        }
    }

    private static void apartBeyondTheBed() {
        tryRack("15 at 18 beside 14 at 14", act(hung(16), "f15"), 3, false);
        tryRack("15 at 17 beside 14 at 14", act(hung(16), "f15"), 2, true);
        tryRack("0 at -3 beside 1 at 1", act(hung(16), "f0"), -3, false);
        tryRack("0 at -2 beside 1 at 1", act(hung(16), "f0"), -2, true);
        tryRack("both at -3 and -2", act(hung(2), "f0 f1"), -3, true);
        Stitchwright x = hung(16);
        for (int front = 0; front < 16; front++) {
            x.transfer(true, front);
        }
        tryRack("all of them, far up", x, 3, true);
        tryRack("all of them, far down", x, -3, true);
    }

    private static void neighboursAlone() {
        Stitchwright x = act(hung(4), "f3 r2");
        CHECK.eq("3 at 5 beside 2 at 2; from 0 it is farther", x.rack(2), 2);
        Stitchwright y = act(hung(6), "f0 f1 f2 r1");
        tryRack("2 at 5 beside 3 at 3, 0 and 1 go along", y, 3, true);
        tryRack("2 at -1 beside 3 at 3", y, -3, false);
        Stitchwright two = act(hung(3), "f2 r-1 b2 r0 f0");
        CHECK.eq("1 and 2 on one needle", on(two, true, 1), "1 2");
        tryRack("0 at -2 beside 1 at 1", two, -2, true);
        tryRack("0 at -3 beside 1 at 1", two, -3, false);
        Stitchwright held = act(hung(2), "f1 r2 b1 r0");
        tryRack("on the front bed, 3 apart", held, -3, true);
    }

    private static void transfersKeepTheirDistance() {
        Stitchwright x = act(hung(2), "f1 r2");
        CHECK.eq("3 apart on two beds", x.transfer(false, 1), 1);
        CHECK.eq("3 apart on one bed", on(x, true, 3), "1");
        CHECK.eq("and back", x.transfer(true, 3), 1);
        Stitchwright y = act(hung(2), "f0 r-2");
        CHECK.fails("no front needle -2", NONE, () -> y.transfer(false, 0));
    }

    // "A method that throws an exception changes nothing.": what was refused has no say in what is asked next.

    private static void refusedRackings() {
        Stitchwright low = act(hung(2), "f0");
        CHECK.fails("0 at -3, 1 at 1", UNSUPPORTED, () -> low.rack(-3));
        CHECK.eq("0 goes back to its needle", low.transfer(false, 0), 1);
        tryRack("both on the front bed", low, -3, true);
        Stitchwright high = act(hung(2), "f1");
        CHECK.fails("1 at 4, 0 at 0", UNSUPPORTED, () -> high.rack(3));
        CHECK.eq("1 goes back to its needle", high.transfer(false, 1), 1);
        tryRack("both on the front bed again", high, 3, true);
        Stitchwright last = act(hung(16), "f15");
        CHECK.fails("15 at 18, 14 at 14", UNSUPPORTED, () -> last.rack(3));
        CHECK.eq("the racking is as it was", last.rack(2), 0);
        CHECK.fails("refused again", UNSUPPORTED, () -> last.rack(3));
        CHECK.eq("from 2 on", last.rack(0), 2);
        CHECK.eq("a transfer and two rackings", last.acts(), 3);
    }

    // "Each transfer, and each racking by some other number, is an act."

    private static void eachAct() {
        Stitchwright x = hung(3);
        CHECK.eq("none", x.acts(), 0);
        CHECK.eq("0 to 0", x.rack(0), 0);
        CHECK.eq("the same number is no act", x.acts(), 0);
        x.rack(-3);
        CHECK.eq("to the least", x.acts(), 1);
        x.rack(3);
        CHECK.eq("by 6 at once", x.acts(), 2);
        x.rack(3);
        CHECK.eq("3 to 3", x.acts(), 2);
        x.rack(0);
        CHECK.eq("back", x.acts(), 3);
        x.transfer(true, 0);
        CHECK.eq("a transfer", x.acts(), 4);
        x.transfer(false, 0);
        CHECK.eq("and back again", x.acts(), 5);
        x.leastActs(0);
        x.onNeedle(true, 0, 0);
        CHECK.eq("questions are none", x.acts(), 5);
        Check.answer(() -> x.rack(4));
        Check.answer(() -> x.transfer(false, 0));
        Check.answer(() -> x.transfer(true, 16));
        Check.answer(() -> x.hang(3));
        CHECK.eq("nor is what is refused", x.acts(), 5);
        Stitchwright stacked = hung(3);
        gather3(stacked);
        CHECK.eq("three loops by one transfer: one act", stacked.acts(), 8);
    }

    private static void gather3(Stitchwright x) {
        act(x, "f0 r1 b0 f1 r2 b0");
        CHECK.eq("three on the front needle 2", on(x, true, 2), "2 1 0");
        act(x, "r0 f2");
    }

    private static void sinceTheLastHanging() {
        Stitchwright x = hung(3);
        act(x, "f0 r1 r0");
        CHECK.eq("three", x.acts(), 3);
        x.hang(0);
        CHECK.eq("none since", x.acts(), 0);
        x.setNumber('A', 0, 20);
        x.rack(1);
        CHECK.fails("too many to hang", UNSUPPORTED, () -> x.hang(0));
        CHECK.eq("one since", x.acts(), 1);
        Told.add(x, "[t]");
        CHECK.eq("what is knit is none", x.acts(), 1);
        CHECK.eq("what hangs stays", on(x, true, 2), "2");
        CHECK.eq("ten then", x.hang(0), 10);
        CHECK.eq("none then", x.acts(), 0);
        CHECK.eq("0 at first", Told.castOn(3).acts(), 0);
    }

    // "Returns by how many acts at least the loops of two front needles beside one another, each with one loop, can
    // change their places, .." "needle: the lower needle, 0 to 14" "at most 8"

    private static void leastOfEachPair() {
        for (int loops = 0; loops <= 16; loops++) {
            Stitchwright x = hung(loops);
            for (int needle = 0; needle < 15; needle++) {
                Object due = needle + 1 < loops ? (Object) 7 : "UnsupportedOperationException";
                int of = needle;
                CHECK.eq("pair " + needle + " of " + loops, Check.answer(() -> x.leastActs(of)), due);
            }
        }
    }

    // "all other loops staying where they are all the time, none of these being on needles that are come to"

    private static void leastInTheWay() {
        CHECK.eq("nothing on the back bed", hung(8).leastActs(2), 7);
        CHECK.eq("others far off", act(hung(8), "f7").leastActs(2), 7);
        CHECK.eq("another one above a pair at the end", act(hung(3), "f2").leastActs(0), 7);
        CHECK.eq("one opposite the lower one", act(hung(8), "r2 f4 r0").leastActs(2), 7);
        CHECK.eq("one opposite the higher one", act(hung(8), "r2 f5 r0").leastActs(2), 7);
        CHECK.eq("both opposite", act(hung(8), "r2 f4 f5 r0").leastActs(2), 8);
        CHECK.eq("both opposite at the lower end", act(hung(8), "r2 f2 f3 r0").leastActs(0), 8);
        CHECK.eq("both opposite at the higher end", act(hung(16), "r-2 f12 f13 r0").leastActs(14), 8);
        Stitchwright three = act(hung(8), "r1 f2 f3 f4 r0");
        CHECK.fails("three of four at the lower end", NONE, () -> three.leastActs(0));
        CHECK.eq("and no others", three.leastActs(5), 7);
        Stitchwright again = act(hung(8), "r2 f4 f5 r0");
        CHECK.eq("asked twice", again.leastActs(2) + again.leastActs(2), 16);
    }

    // "the racking 0 at the end as it is at the beginning, and neighbours aside"

    private static void leastAndNeighbours() {
        Stitchwright x = act(hung(16), "f3 r-2");
        CHECK.fails("racked", UNSUPPORTED, () -> x.leastActs(8));
        x.rack(0);
        CHECK.eq("not racked any more", x.leastActs(8), 7);
        Stitchwright far = act(hung(3), "f2 r2 b2 r0");
        CHECK.eq("2 at 4, 3 from 1 at 1; it would be 4 from it behind the change", on(far, true, 4), "2");
        CHECK.eq("neighbours that would be drawn too far do not count", far.leastActs(0), 7);
    }

    // "the one with the number i, from 0 on, is for the row, from 1 on, that is (i + 1) times the rows divided by the
    // number of these loops, rounded down"

    private static void shaping() {
        Stitchwright x = Told.empty();
        int calls = 0;
        for (int loops = 1; loops <= 40; loops++) {
            for (int rows : new int[] {loops, loops + 1, 2 * loops - 1, 2 * loops, 3 * loops + 1, 99, 199, 200}) {
                for (int index = 0; index < loops && rows >= loops; index++) {
                    calls++;
                    x = calls % 500 == 0 ? Told.empty() : x;
                    int row = x.shapeRow(loops, rows, index);
                    CHECK.eq("shaping " + loops + " in " + rows + ", " + index,
                            row * loops <= (index + 1) * rows && (row + 1) * loops > (index + 1) * rows, true);
                    CHECK.eq("in a row", row >= 1 && row <= rows, true);
                }
            }
        }
        CHECK.eq("one loop in the last row", x.shapeRow(1, 200, 0), 200);
        CHECK.eq("one loop in one row", x.shapeRow(1, 1, 0), 1);
        CHECK.eq("the first of 40 in 40", x.shapeRow(40, 40, 0), 1);
        CHECK.eq("the last of 40 in 40", x.shapeRow(40, 40, 39), 40);
        CHECK.eq("the first of 40 in 200", x.shapeRow(40, 200, 0), 5);
        CHECK.eq("the last of 40 in 200", x.shapeRow(40, 200, 39), 200);
    }
}
