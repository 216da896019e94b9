import java.util.NoSuchElementException;

/** The promises 34 to 39: the machine. */
public final class MachineTest {
    private static final Check CHECK = new Check("MachineTest");
    private static final Class<IllegalArgumentException> ARGUMENT = IllegalArgumentException.class;
    private static final Class<IndexOutOfBoundsException> INDEX = IndexOutOfBoundsException.class;
    private static final Class<NoSuchElementException> NONE = NoSuchElementException.class;
    private static final Class<UnsupportedOperationException> UNSUPPORTED = UnsupportedOperationException.class;

    public static void main(String[] args) {
        hang();
        rack();
        tooFarApart();
        transfer();
        fullNeedle();
        onNeedle();
        acts();
        leastActs();
        leastActsAmongOthers();
        leastActsByFarRacking();
        CHECK.end();
    }

    private static Stitchwright hung(int loops) {
        Stitchwright x = Told.castOn(loops);
        x.hang(0);
        return x;
    }

    private static void hang() {
        Stitchwright x = Told.knit(18, "t2[k]");
        x.setNumber('A', 1, 17);
        x.setNumber('A', 2, 19);
        CHECK.eq("16 loops", x.hang(0), 16);
        for (int needle = 0; needle < 16; needle++) {
            CHECK.eq("front needle " + needle, x.onNeedle(true, needle, 0), needle);
        }
        CHECK.fails("17 loops", UNSUPPORTED, () -> x.hang(2));
        CHECK.eq("those before stay", x.onNeedle(true, 15, 0), 15);
        CHECK.eq("another size in place", x.hang(1), 15);
        CHECK.fails("one less", NONE, () -> x.onNeedle(true, 15, 0));
        CHECK.fails("size 3", INDEX, () -> x.hang(3));
        CHECK.fails("size -1", INDEX, () -> x.hang(-1));
        x.transfer(true, 2);
        x.rack(1);
        x.transfer(true, 4);
        CHECK.eq("hung again", x.hang(1), 15);
        CHECK.fails("nothing on the back bed", NONE, () -> x.onNeedle(false, 2, 0));
        CHECK.eq("one on each again", x.onNeedle(true, 4, 0), 4);
        CHECK.fails("and not two", NONE, () -> x.onNeedle(true, 4, 1));
        CHECK.eq("no racking", x.rack(0), 0);
        CHECK.eq("no acts", x.acts(), 0);
        Stitchwright none = Told.knit(2, "o2");
        none.hang(0);
        CHECK.eq("a row without loops", none.hang(0), 0);
        CHECK.eq("the last row of the fabric, not of the pattern", Told.knit(3, "k3y", "k2").hang(0), 4);
        Stitchwright kept = hung(3);
        kept.setNumber('A', 0, 1);
        CHECK.eq("what hangs stays when the fabric changes", kept.onNeedle(true, 2, 0), 2);
        CHECK.eq("the new row 0", kept.hang(0), 1);
    }

    private static void rack() {
        Stitchwright x = hung(4);
        CHECK.eq("from 0", x.rack(3), 0);
        CHECK.eq("from 3", x.rack(-3), 3);
        CHECK.eq("from -3", x.rack(-3), -3);
        CHECK.fails("4", ARGUMENT, () -> x.rack(4));
        CHECK.fails("-4", ARGUMENT, () -> x.rack(-4));
        CHECK.eq("nothing changed", x.rack(0), -3);
        CHECK.eq("an empty machine", Told.empty().rack(2), 0);
    }

    private static void tooFarApart() {
        Stitchwright x = hung(3);
        x.transfer(true, 1);
        CHECK.eq("1 on back 1: 3 from 0 at racking 2", x.rack(2), 0);
        CHECK.fails("4 from 0 at racking 3", UNSUPPORTED, () -> x.rack(3));
        CHECK.eq("1 from 2 at racking 2, 3 at racking -2", x.rack(-2), 2);
        CHECK.fails("4 from 2 at racking -3", UNSUPPORTED, () -> x.rack(-3));
        CHECK.fails("out of range first", ARGUMENT, () -> x.rack(-4));
        CHECK.eq("nothing changed", x.rack(1), -2);
        CHECK.eq("now before 2", x.transfer(false, 1), 2);
        CHECK.eq("all racked at once", x.rack(3), 1);
        Stitchwright far = hung(5);
        far.transfer(true, 4);
        CHECK.fails("4 from 3", UNSUPPORTED, () -> far.rack(3));
        far.transfer(true, 3);
        CHECK.fails("3 from 2", UNSUPPORTED, () -> far.rack(3));
        far.transfer(true, 2);
        far.transfer(true, 1);
        far.transfer(true, 0);
        CHECK.eq("all on the back bed", far.rack(3), 0);
        Stitchwright apart = hung(6);
        apart.transfer(true, 5);
        apart.rack(2);
        CHECK.eq("only neighbours count: 5 from 0 is 7", apart.rack(2), 2);
    }

    private static void transfer() {
        Stitchwright x = hung(4);
        CHECK.eq("to the back", x.transfer(true, 2), 1);
        CHECK.eq("there", x.onNeedle(false, 2, 0), 2);
        CHECK.fails("not here any more", NONE, () -> x.transfer(true, 2));
        x.rack(1);
        CHECK.eq("back 2 is opposite front 3", x.transfer(false, 2), 2);
        x.rack(-2);
        CHECK.eq("front 3 is opposite back 5", x.transfer(true, 3), 2);
        CHECK.eq("there too", x.onNeedle(false, 5, 0), 3);
        CHECK.fails("none on the needle", NONE, () -> x.transfer(false, 9));
        CHECK.fails("none on it, none opposite", NONE, () -> x.transfer(false, 0));
        CHECK.fails("needle 16", INDEX, () -> x.transfer(true, 16));
        CHECK.fails("needle -1", INDEX, () -> x.transfer(false, -1));
        Stitchwright first = hung(2);
        first.rack(1);
        CHECK.fails("back -1 is none", NONE, () -> first.transfer(true, 0));
        Stitchwright high = hung(16);
        high.transfer(true, 15);
        high.rack(1);
        CHECK.fails("front 16 is none", NONE, () -> high.transfer(false, 15));
        high.rack(-1);
        CHECK.eq("back 15 is opposite front 14", high.transfer(false, 15), 2);
        high.transfer(true, 13);
        CHECK.fails("front 15 is empty", NONE, () -> high.transfer(true, 15));
        Stitchwright low = hung(2);
        low.transfer(true, 0);
        low.rack(-1);
        CHECK.fails("front -1 is none", NONE, () -> low.transfer(false, 0));
    }

    private static void fullNeedle() {
        Stitchwright x = hung(5);
        x.transfer(true, 1);
        x.transfer(true, 3);
        x.rack(1);
        CHECK.eq("two on front 2", x.transfer(false, 1), 2);
        x.rack(-1);
        CHECK.eq("three on front 2", x.transfer(false, 3), 3);
        x.rack(0);
        CHECK.eq("one on back 0", x.transfer(true, 0), 1);
        x.rack(2);
        CHECK.fails("a fourth from back 0 to front 2", UNSUPPORTED, () -> x.transfer(false, 0));
        CHECK.fails("three to one", UNSUPPORTED, () -> x.transfer(true, 2));
        CHECK.eq("acts", x.acts(), 9);
        CHECK.eq("the first one", x.onNeedle(true, 2, 0), 2);
        CHECK.eq("the second one", x.onNeedle(true, 2, 1), 1);
        CHECK.eq("the third one", x.onNeedle(true, 2, 2), 3);
        CHECK.eq("the fourth one where it was", x.onNeedle(false, 0, 0), 0);
        Stitchwright two = hung(5);
        two.transfer(true, 0);
        two.transfer(true, 1);
        two.rack(1);
        two.transfer(false, 1);
        two.rack(2);
        CHECK.eq("three on front 2, two of them there before", two.transfer(false, 0), 3);
        two.rack(0);
        two.transfer(true, 3);
        two.transfer(true, 4);
        two.rack(-1);
        two.transfer(false, 4);
        two.rack(0);
        CHECK.eq("two on back 3", two.transfer(true, 3), 2);
        two.rack(-1);
        CHECK.fails("two to three", UNSUPPORTED, () -> two.transfer(false, 3));
    }

    private static void onNeedle() {
        Stitchwright x = hung(4);
        x.transfer(true, 1);
        x.rack(1);
        CHECK.eq("1 comes to 2", x.transfer(false, 1), 2);
        CHECK.eq("the one that was there", x.onNeedle(true, 2, 0), 2);
        CHECK.eq("the one that came", x.onNeedle(true, 2, 1), 1);
        x.rack(0);
        x.transfer(true, 2);
        CHECK.eq("their order stays", x.onNeedle(false, 2, 0), 2);
        CHECK.eq("of both", x.onNeedle(false, 2, 1), 1);
        x.rack(1);
        CHECK.eq("both come to 3", x.transfer(false, 2), 3);
        CHECK.eq("3 first", x.onNeedle(true, 3, 0), 3);
        CHECK.eq("then 2", x.onNeedle(true, 3, 1), 2);
        CHECK.eq("then 1", x.onNeedle(true, 3, 2), 1);
        CHECK.fails("no more", NONE, () -> x.onNeedle(true, 3, 3));
        CHECK.fails("depth -1", NONE, () -> x.onNeedle(true, 3, -1));
        CHECK.fails("an empty needle", NONE, () -> x.onNeedle(true, 2, 0));
        CHECK.fails("needle 16", INDEX, () -> x.onNeedle(true, 16, 0));
        CHECK.fails("needle -1, depth 9", INDEX, () -> x.onNeedle(false, -1, 9));
    }

    private static void acts() {
        Stitchwright x = Told.castOn(3);
        CHECK.eq("at first", x.acts(), 0);
        x.hang(0);
        CHECK.eq("hung", x.acts(), 0);
        x.rack(1);
        CHECK.eq("racked", x.acts(), 1);
        x.rack(1);
        CHECK.eq("racked to the same", x.acts(), 1);
        x.transfer(true, 2);
        CHECK.eq("transferred", x.acts(), 2);
        Check.answer(() -> x.transfer(true, 2));
        Check.answer(() -> x.rack(4));
        CHECK.eq("what throws is no act", x.acts(), 2);
        x.rack(0);
        x.leastActs(0);
        CHECK.eq("asking is no act", x.acts(), 3);
        x.hang(0);
        CHECK.eq("since the last hanging", x.acts(), 0);
    }

    private static void leastActs() {
        Stitchwright x = hung(16);
        for (int needle = 0; needle < 15; needle++) {
            CHECK.eq("from needle " + needle, x.leastActs(needle), 7);
        }
        CHECK.fails("needle 15", INDEX, () -> x.leastActs(15));
        CHECK.fails("needle -1", INDEX, () -> x.leastActs(-1));
        x.rack(1);
        CHECK.fails("racked", UNSUPPORTED, () -> x.leastActs(0));
        x.rack(0);
        x.transfer(true, 4);
        CHECK.fails("none on the lower needle", UNSUPPORTED, () -> x.leastActs(4));
        CHECK.fails("none on the higher needle", UNSUPPORTED, () -> x.leastActs(3));
        x.rack(1);
        x.transfer(false, 4);
        x.rack(0);
        CHECK.fails("two on the lower needle", UNSUPPORTED, () -> x.leastActs(5));
        CHECK.fails("nothing hung", UNSUPPORTED, () -> Told.empty().leastActs(4));
        Stitchwright higher = hung(16);
        higher.transfer(true, 6);
        higher.rack(-1);
        higher.transfer(false, 6);
        higher.rack(0);
        CHECK.fails("two on the higher needle", UNSUPPORTED, () -> higher.leastActs(4));
        CHECK.eq("beside them", x.leastActs(6), 7);
        CHECK.eq("seven acts do it", sevenActs(), "1 0");
    }

    /** The acts by which two loops change their places: the document's machine does it in seven. */
    private static String sevenActs() {
        Stitchwright x = hung(2);
        x.transfer(true, 0);
        x.transfer(true, 1);
        x.rack(1);
        x.transfer(false, 0);
        x.rack(-1);
        x.transfer(false, 1);
        x.rack(0);
        CHECK.eq("acts", x.acts(), 7);
        return x.onNeedle(true, 0, 0) + " " + x.onNeedle(true, 1, 0);
    }

    private static void leastActsAmongOthers() {
        Stitchwright eight = hung(16);
        eight.rack(2);
        eight.transfer(true, 2);
        eight.transfer(true, 3);
        eight.rack(0);
        CHECK.eq("others on the back needles 0 and 1", eight.leastActs(0), 8);
        Stitchwright more = hung(16);
        more.rack(1);
        more.transfer(true, 2);
        more.transfer(true, 3);
        more.transfer(true, 4);
        more.rack(0);
        CHECK.fails("others on the back needles 1 to 3", NONE, () -> more.leastActs(0));
        CHECK.eq("nothing changed", more.acts(), 5);
        CHECK.eq("farther off", more.leastActs(8), 7);
        CHECK.eq("asked again", Check.answer(() -> more.leastActs(0)), "NoSuchElementException");
    }

    /** The fewest acts after some acts: r with a racking, f with a front needle, b with a back one. */
    private static Object leastAfter(int loops, int needle, String... acts) {
        Stitchwright x = hung(loops);
        for (String act : acts) {
            int number = Integer.parseInt(act.substring(1));
            if (act.charAt(0) == 'r') {
                x.rack(number);
            } else {
                x.transfer(act.charAt(0) == 'f', number);
            }
        }
        return Check.answer(() -> x.leastActs(needle));
    }

    private static void leastActsByFarRacking() {
        CHECK.eq("eight by the racking 3", leastAfter(11, 2, "f10", "f5", "r-2", "f0", "f1", "r0"), 8);
        CHECK.eq("eight by the racking -3", leastAfter(5, 0, "r3", "f3", "f4", "r0"), 8);
        CHECK.eq("nine", leastAfter(7, 1, "r3", "f4", "f6", "f5", "r0"), "NoSuchElementException");
        CHECK.eq("another nine", leastAfter(10, 7, "f1", "r-2", "f4", "f6", "f5", "r-1", "f9", "r0"), "NoSuchElementException");
    }
}
