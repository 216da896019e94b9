/** The promises 40 to 43: figures. */
public final class FiguresTest {
    private static final Check CHECK = new Check("FiguresTest");

    public static void main(String[] args) {
        checksum();
        closedShare();
        meanLoops();
        isSound();
        CHECK.end();
    }

    private static void checksum() {
        Stitchwright x = Told.empty();
        CHECK.eq("nothing", x.checksum(), 0L);
        x.setNumber('A', 2, 5);
        CHECK.eq("the last size", x.checksum(), 5L);
        x.setNumber('A', 0, 2);
        CHECK.eq("the first size", x.checksum(), 2L * 961 + 5);
        Told.add(x, "yk[k]");
        CHECK.eq("rows of two sizes", x.checksum(), (((2L * 31 + 3) * 31) * 31 + 5) * 31 + 6);
        Told.add(x, "k3");
        CHECK.eq("a row that does not close in one", x.checksum(), ((((2L * 31 + 3) * 31 + 3) * 31) * 31 + 5) * 31 + 6);
        Stitchwright full = Told.castOn(40);
        long sum = 0;
        for (int i = 0; i < 24; i++) {
            Told.add(full, "[k]");
        }
        for (int i = 0; i < 75; i++) {
            sum = 31 * sum + 40;
        }
        CHECK.eq("beyond a long", full.checksum(), sum);
    }

    private static void closedShare() {
        Stitchwright x = Told.empty();
        CHECK.eq("none", x.closedShare(), 0f);
        x.setNumber('A', 1, 3);
        CHECK.eq("one", x.closedShare(), 1f / 3f);
        x.setNumber('A', 0, 3);
        CHECK.eq("two", x.closedShare(), 2f / 3f);
        x.setNumber('A', 2, 4);
        CHECK.eq("all", x.closedShare(), 1f);
        Told.add(x, "k3");
        CHECK.eq("one does not any more", x.closedShare(), 2f / 3f);
    }

    private static void meanLoops() {
        Stitchwright x = Told.empty();
        CHECK.eq("nothing", x.meanLoops(), 0.0);
        x.setNumber('A', 1, 4);
        CHECK.eq("rows 0", x.meanLoops(), 4.0 / 3.0);
        Told.add(x, "yk4");
        CHECK.eq("and a row", x.meanLoops(), 9.0 / 4.0);
        Told.add(x, "k5");
        Told.add(x, "k6");
        CHECK.eq("up to what does not close", x.meanLoops(), 14.0 / 5.0);
    }

    private static void isSound() {
        Stitchwright x = Told.empty();
        CHECK.eq("nothing", x.isSound(), true);
        x.setNumber('A', 0, 12);
        x.setNumber('A', 1, 13);
        x.setNumber('A', 2, 14);
        x.setFlat(1, true);
        for (String row : new String[] {"[k]", "kplymftsxz[o]", "[k]", "k2/", "t[k]", "[o]", "k"}) {
            Told.add(x, row);
            CHECK.eq("behind " + row, x.isSound(), true);
        }
    }
}
