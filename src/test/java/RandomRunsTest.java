import java.util.Random;
import java.util.function.Supplier;

/** Random runs of calls, answered by the class and by the model: each answer and exception must be the same. */
public final class RandomRunsTest {
    private static final String SIGNS = "kplwymftsxzoabd()[]/0123456789ABCD";
    private static final int RUNS = 1500;
    private static final int CALLS = 300;

    private final Check check = new Check("RandomRunsTest");
    private final Random random;
    private final Stitchwright real = new Stitchwright();
    private final Model model = new Model();
    private final StringBuilder told = new StringBuilder();
    private boolean same = true;

    private RandomRunsTest(int seed) {
        random = new Random(seed);
    }

    public static void main(String[] args) {
        Check all = new Check("RandomRunsTest");
        for (int seed = 0; seed < RUNS; seed++) {
            RandomRunsTest run = new RandomRunsTest(seed);
            run.go(seed % 6);
            all.eq("run " + seed + ":" + (run.same ? "" : run.told), run.same, true);
        }
        all.end();
    }

    private void both(String call, Supplier<Object> ofReal, Supplier<Object> ofModel) {
        if (same) {
            told.append('\n').append(call);
            Object got = Check.answer(ofReal);
            Object due = Check.answer(ofModel);
            same = due.equals(got);
            if (!same) {
                told.append(" answered ").append(got).append(", due is ").append(due);
            }
        }
    }

    private int below(int bound) {
        return random.nextInt(bound);
    }

    private char oneOf(String signs) {
        return signs.charAt(below(signs.length()));
    }

    private int size() {
        return below(40) == 0 ? below(2) * 4 - 1 : below(3);
    }

    private int row() {
        return below(40) == 0 ? -1 - below(3) : below(real.rows(below(3)) + 2);
    }

    private int place() {
        return below(40) == 0 ? below(200) - 100 : below(12) == 0 ? below(61) : below(9);
    }

    // Words

    private String count(boolean mayBeLetter) {
        int kind = below(8);
        if (kind < 4) {
            return "";
        }
        return kind == 4 && mayBeLetter ? "" + oneOf("ABCD") : below(20) == 0 ? "" + below(100) : "" + below(4);
    }

    private String items(int most, int deep, String stitches) {
        StringBuilder items = new StringBuilder();
        int count = 1 + below(most);
        for (int i = 0; i < count; i++) {
            int kind = below(12);
            if (kind == 0 && deep > 0) {
                items.append('(').append(items(3, deep - 1, stitches)).append(')').append(count(true));
            } else if (kind < 3) {
                items.append(oneOf("abd"));
            } else {
                items.append(oneOf(stitches)).append(count(true));
            }
        }
        return items.toString();
    }

    private String row(String stitches) {
        StringBuilder row = new StringBuilder();
        if (below(3) > 0) {
            row.append(items(4, 4, stitches));
        }
        if (below(6) > 0) {
            row.append('[').append(items(3, 3, stitches)).append(']').append(below(2) == 0 ? "" : "" + below(5));
            row.append(below(2) == 0 ? "" : items(3, 2, stitches));
            row.append(below(2) == 0 ? "" : "[" + oneOf("kpwo") + "]");
        }
        if (row.length() == 0) {
            row.append(items(2, 0, stitches));
        }
        if (below(3) == 0) {
            row.append('/');
        }
        return row.length() > 60 ? "k" : row.toString();
    }

    /** A row that closes in as many sizes as can be found soon. */
    private String goodRow(String stitches) {
        String best = "k";
        int most = -1;
        for (int tried = 0; tried < 12; tried++) {
            String row = below(4) == 0 ? colourRow() : row(stitches);
            int closed = model.closedWith(row);
            if (closed > most) {
                best = row;
                most = closed;
            }
        }
        return best;
    }

    /** A row of many colours, which works all loops by stitches that take and make one. */
    private String colourRow() {
        StringBuilder row = new StringBuilder("[");
        int count = 2 + below(5);
        for (int i = 0; i < count; i++) {
            row.append(oneOf("abd")).append(oneOf("kkpmyw")).append(below(3) == 0 ? "" : "" + below(7));
        }
        return row.append(']').append(oneOf("abd")).append("[k]").append(below(4) == 0 ? "/" : "").toString();
    }

    private String braidRow(int strands) {
        StringBuilder row = new StringBuilder();
        int place = 0;
        while (place < strands) {
            boolean crosses = place + 1 < strands && below(2) == 0;
            row.append(crosses ? oneOf("xz") : oneOf("kplw"));
            place += crosses ? 2 : 1;
        }
        return row.toString();
    }

    private void type(String text) {
        both("clear()", real::clear, model::clear);
        for (char sign : text.toCharArray()) {
            both("type('" + sign + "')", () -> real.type(sign), () -> model.type(sign));
        }
        both("fault()", real::fault, model::fault);
    }

    private void tellRow(int kind) {
        int strands = real.loops(0, 0);
        boolean fullBefore = real.loops(0, real.rows(0)) > 30;
        String stitches = kind == 0 ? "kplwymftsxzo" : kind == 1 ? "kkpwtsxo" : fullBefore ? "kpts" : "kplwymftsxzo";
        type(kind == 4 ? braidRow(strands) : goodRow(stitches));
        if (real.rows(0) > 0 && below(4) == 0) {
            int row = below(20) == 0 ? below(30) - 2 : 1 + below(Math.max(1, model.rowCount()));
            both("replace(" + row + ")", () -> real.replace(row), () -> model.replace(row));
        } else {
            both("addRow()", real::addRow, model::addRow);
        }
    }

    private void wrongWord() {
        String text = below(2) == 0 ? items(6, 4, "kplwymftsxzo") : row("kptx");
        StringBuilder changed = new StringBuilder(text);
        for (int i = 0; i < 2; i++) {
            changed.insert(below(changed.length() + 1), below(3) == 0 ? oneOf("()[]") : oneOf(SIGNS));
        }
        type(changed.toString());
        if (below(3) == 0) {
            both("addRow()", real::addRow, model::addRow);
        }
        char sign = (char) below(below(3) == 0 ? 65536 : 128);
        both("type((char) " + (int) sign + ")", () -> real.type(sign), () -> model.type(sign));
    }

    private void tellNumber(int kind) {
        char letter = below(20) == 0 ? oneOf("@EaK") : oneOf("AABCD");
        int size = size();
        int number = below(20) == 0 ? below(60) - 10 : letter != 'A' ? below(4) : kind == 4 ? below(8) + 2 : below(30);
        both("setNumber(" + letter + "," + size + "," + number + ")",
                () -> real.setNumber(letter, size, number), () -> model.setNumber(letter, size, number));
    }

    // Calls

    private void go(int kind) {
        int first = kind == 4 ? 2 + below(7) : 1 + below(24);
        for (int i = 0; i < 3; i++) {
            int size = i;
            int number = kind == 4 ? first : Math.max(1, first + below(5) - 2);
            boolean isFlat = kind != 0 && below(2) == 0;
            both("setNumber(A," + size + "," + number + ")",
                    () -> real.setNumber('A', size, number), () -> model.setNumber('A', size, number));
            both("setFlat(" + size + "," + isFlat + ")", () -> real.setFlat(size, isFlat), () -> model.setFlat(size, isFlat));
        }
        both("hang(0)", () -> real.hang(0), () -> model.hang(0));
        for (int call = 0; call < CALLS && same; call++) {
            int group = kind == 5 ? 75 + below(22) : below(100);
            if (group < 4) {
                tellRow(kind);
            } else if (group < 5) {
                wrongWord();
            } else if (group < 7 && below(3) == 0) {
                tellNumber(kind);
            } else if (group < 8 && below(4) == 0) {
                int size = size();
                boolean isFlat = below(2) == 0;
                both("setFlat(" + size + "," + isFlat + ")",
                        () -> real.setFlat(size, isFlat), () -> model.setFlat(size, isFlat));
            } else if (group < 50) {
                askFabric(below(14));
            } else if (group < 75) {
                askMeasures(below(11));
            } else if (group < 95) {
                useMachine(below(8));
            } else {
                askFigures();
            }
        }
    }

    private void askFabric(int which) {
        int size = size();
        int row = row();
        int place = place();
        int other = size();
        int otherRow = row();
        String at = "(" + size + "," + row + "," + place + ")";
        switch (which) {
            case 0 -> both("rows(" + size + ")", () -> real.rows(size), () -> model.rows(size));
            case 1 -> both("closes(" + size + ")", () -> real.closes(size), () -> model.closes(size));
            case 2 -> both("loops" + at, () -> real.loops(size, row), () -> model.loops(size, row));
            case 3 -> both("stitch" + at, () -> real.stitch(size, row, place), () -> model.stitch(size, row, place));
            case 4 -> both("seen" + at, () -> real.seen(size, row, place), () -> model.seen(size, row, place));
            case 5 -> both("colourOf" + at, () -> real.colourOf(size, row, place), () -> model.colourOf(size, row, place));
            case 6 -> {
                int parent = below(20) == 0 ? below(5) - 2 : below(2);
                both("parent" + at + parent, () -> real.parent(size, row, place, parent),
                        () -> model.parent(size, row, place, parent));
            }
            case 7 -> both("children" + at, () -> real.children(size, row, place), () -> model.children(size, row, place));
            case 8 -> both("isBound" + at, () -> real.isBound(size, row, place), () -> model.isBound(size, row, place));
            case 9 -> both("unravel" + at, () -> real.unravel(size, place), () -> model.unravel(size, place));
            case 10 -> {
                int dropped = place();
                both("falls" + at + dropped, () -> real.falls(size, dropped, row, place),
                        () -> model.falls(size, dropped, row, place));
            }
            case 11 -> both("rootOf" + at, () -> real.rootOf(size, row, place), () -> model.rootOf(size, row, place));
            case 12 -> both("crossings" + at, () -> real.crossings(size), () -> model.crossings(size));
            default -> both("areAlike" + at + other + "," + otherRow, () -> real.areAlike(size, row, other, otherRow),
                    () -> model.areAlike(size, row, other, otherRow));
        }
    }

    private void askMeasures(int which) {
        int size = size();
        int row = row();
        int place = place();
        char colour = below(20) == 0 ? oneOf("ckA*") : oneOf("abd");
        char some = below(3) == 0 ? '*' : colour;
        int number = below(10) == 0 ? below(1100) - 50 : below(below(2) == 0 ? 4 : 22);
        String at = "(" + size + "," + row + "," + place + ")" + colour + some + number;
        switch (which) {
            case 0, 1 -> both("mark" + at, () -> real.mark(size, row, place), () -> model.mark(size, row, place));
            case 2 -> both("undone" + at, () -> real.undone(size), () -> model.undone(size));
            case 3 -> both("yarn" + at, () -> real.yarn(size, some), () -> model.yarn(size, some));
            case 4 -> both("setBall" + at, () -> real.setBall(number), () -> model.setBall(number));
            case 5 -> {
                int ball = below(10) == 0 ? random.nextInt() : below(6);
                both("ballEnd" + at + ball, () -> real.ballEnd(size, colour, ball), () -> model.ballEnd(size, colour, ball));
            }
            case 6 -> both("setFloat" + at, () -> real.setFloat(number), () -> model.setFloat(number));
            case 7 -> both("longest" + at, () -> real.longest(size, row), () -> model.longest(size, row));
            case 8 -> both("catches" + at, () -> real.catches(size), () -> model.catches(size));
            case 9 -> {
                both("setGauge" + at, () -> real.setGauge(number), () -> model.setGauge(number));
                both("width" + at, () -> real.width(size, row), () -> model.width(size, row));
            }
            default -> {
                int loops = below(44) - 1;
                int rows = below(204);
                int index = below(loops > 0 ? loops + 2 : 2) - 1;
                both("shapeRow(" + loops + "," + rows + "," + index + ")",
                        () -> real.shapeRow(loops, rows, index), () -> model.shapeRow(loops, rows, index));
            }
        }
    }

    /** Mostly a needle that holds a loop. */
    private int needle(boolean isFront) {
        int needle = below(30) == 0 ? below(40) - 12 : below(16);
        boolean holds = false;
        for (int tried = 0; tried < 40 && !holds && below(20) > 0; tried++) {
            needle = below(16);
            holds = Check.answer(heldBy(isFront, needle)).equals(true);
        }
        return needle;
    }

    private Supplier<Boolean> heldBy(boolean isFront, int needle) {
        return () -> model.onNeedle(isFront, needle, 0) >= 0;
    }

    private void useMachine(int which) {
        int size = size();
        boolean isFront = below(2) == 0;
        int needle = needle(isFront);
        int racking = below(20) == 0 ? below(12) - 6 : below(7) - 3;
        int depth = below(30) == 0 ? -1 : below(below(3) == 0 ? 4 : 2);
        String at = "(" + isFront + "," + needle + ")";
        switch (which) {
            case 0 -> {
                if (below(12) == 0) {
                    both("hang(" + size + ")", () -> real.hang(size), () -> model.hang(size));
                }
            }
            case 1 -> both("rack(" + racking + ")", () -> real.rack(racking), () -> model.rack(racking));
            case 2, 3 -> {
                both("transfer" + at, () -> real.transfer(isFront, needle), () -> model.transfer(isFront, needle));
            }
            case 4, 5 -> both("onNeedle" + at + depth, () -> real.onNeedle(isFront, needle, depth),
                    () -> model.onNeedle(isFront, needle, depth));
            case 6 -> both("acts()", real::acts, model::acts);
            default -> {
                int pair = needle(true);
                if (below(8) == 0) {
                    both("rack(0)", () -> real.rack(0), () -> model.rack(0));
                    both("leastActs(" + pair + ")", () -> real.leastActs(pair), () -> model.leastActs(pair));
                }
            }
        }
    }

    private void askFigures() {
        both("checksum()", real::checksum, model::checksum);
        both("closedShare()", real::closedShare, model::closedShare);
        both("meanLoops()", real::meanLoops, model::meanLoops);
        both("isSound()", real::isSound, model::isSound);
    }
}
