import java.util.ArrayList;
import java.util.List;
import java.util.function.Supplier;

/**
 * All that an object answers, asked in groups: each group asks an object of its own, so that
 * asking changes nothing for the next group, and no object is called more than 512 times.
 */
final class Answers {
    private final Supplier<Stitchwright> scene;
    private final List<String> answers = new ArrayList<>();
    private int calls = 0;

    private Answers(Supplier<Stitchwright> scene) {
        this.scene = scene;
    }

    /** The answers of the object that a scene makes, each time anew. */
    static List<String> of(Supplier<Stitchwright> scene) {
        Answers all = new Answers(scene);
        all.buffer();
        all.bufferAsRow();
        all.settings();
        all.figures();
        all.machine();
        for (int size = 0; size < 3; size++) {
            all.fabric(size);
            all.measures(size);
            all.holding(size);
            for (int row = 0; row <= scene.get().rows(size); row++) {
                all.loops(size, row);
                all.marks(size, row);
            }
        }
        all.braids();
        return all.answers;
    }

    private Stitchwright begin() {
        calls = 0;
        return scene.get();
    }

    private void ask(String what, Supplier<?> call) {
        calls++;
        if (calls > 360) {
            throw new IllegalStateException("too many calls for one object");
        }
        answers.add(what + " " + Check.answer(call));
    }

    private void buffer() {
        Stitchwright x = begin();
        ask("fault", x::fault);
        ask("clear", x::clear);
        ask("type", () -> x.type('k'));
        Told.buffer(x, "k");
        ask("rows", x::addRow);
        Stitchwright y = begin();
        for (int sign = 0; sign < 3; sign++) {
            ask("type", () -> y.type('k'));
        }
    }

    /** What is in the buffer is seen by the row that it makes, its brackets shut. */
    private void bufferAsRow() {
        Stitchwright x = begin();
        for (int bracket = 0; bracket < 4 && x.fault() >= 0; bracket++) {
            ask("shut", () -> x.type(')'));
        }
        ask("row", x::addRow);
        ask("sum", x::checksum);
        for (int size = 0; size < 3; size++) {
            int of = size;
            ask("rows", () -> x.rows(of));
            ask("stitches", () -> Told.stitches(x, of, x.rows(of)));
            ask("colours", () -> Told.colours(x, of, x.rows(of)));
        }
    }

    private void settings() {
        Stitchwright x = begin();
        ask("ball", () -> x.setBall(10));
        ask("float", () -> x.setFloat(1));
        ask("gauge", () -> x.setGauge(1));
        for (int size = 0; size < 3; size++) {
            int of = size;
            ask("flat", () -> x.setFlat(of, true));
            for (char letter : "ABCD".toCharArray()) {
                ask("number", () -> x.setNumber(letter, of, 0));
            }
        }
        for (int row = 1; row <= 25; row++) {
            int of = row;
            Told.buffer(x, "k");
            ask("replace", () -> x.replace(of));
        }
    }

    private void figures() {
        Stitchwright x = begin();
        ask("checksum", x::checksum);
        ask("closedShare", x::closedShare);
        ask("meanLoops", x::meanLoops);
        ask("isSound", x::isSound);
    }

    private void machine() {
        Stitchwright x = begin();
        ask("acts", x::acts);
        for (int needle = 0; needle < 16; needle++) {
            for (int depth = 0; depth < 4; depth++) {
                int of = needle;
                int deep = depth;
                ask("front", () -> x.onNeedle(true, of, deep));
                ask("back", () -> x.onNeedle(false, of, deep));
            }
        }
        for (int needle = 0; needle < 15; needle++) {
            int of = needle;
            ask("leastActs", () -> x.leastActs(of));
        }
        ask("racking", () -> x.rack(0));
        ask("acts then", x::acts);
        for (int racking = -3; racking <= 3; racking++) {
            Stitchwright y = begin();
            int to = racking;
            ask("rack", () -> y.rack(to));
            ask("acts then", y::acts);
        }
    }

    private void fabric(int size) {
        Stitchwright x = begin();
        ask("rows", () -> x.rows(size));
        ask("closes", () -> x.closes(size));
        ask("crossings", () -> x.crossings(size));
        for (int row = -1; row <= 25; row++) {
            int of = row;
            ask("loops", () -> x.loops(size, of));
            ask("width", () -> x.width(size, of));
            ask("longest", () -> x.longest(size, of));
        }
    }

    private void measures(int size) {
        Stitchwright x = begin();
        ask("undone", () -> x.undone(size));
        ask("catches", () -> x.catches(size));
        ask("yarn", () -> x.yarn(size, '*'));
        for (char colour : "abd".toCharArray()) {
            ask("yarn", () -> x.yarn(size, colour));
            for (int ball = 0; ball < 6; ball++) {
                int of = ball;
                ask("ballEnd", () -> x.ballEnd(size, colour, of));
            }
        }
    }

    private void holding(int size) {
        Stitchwright x = begin();
        int last = x.rows(size);
        int count = x.loops(size, last);
        for (int place = 0; place < count; place++) {
            int of = place;
            ask("unravel", () -> x.unravel(size, of));
            ask("falls below", () -> x.falls(size, of, Math.max(0, last - 1), 0));
        }
    }

    private void loops(int size, int row) {
        Stitchwright x = begin();
        int count = x.loops(size, row);
        for (int place = 0; place < count; place++) {
            int of = place;
            ask("stitch", () -> x.stitch(size, row, of));
            ask("seen", () -> x.seen(size, row, of));
            ask("colour", () -> x.colourOf(size, row, of));
            ask("parent", () -> x.parent(size, row, of, 0));
            ask("parent", () -> x.parent(size, row, of, 1));
            ask("children", () -> x.children(size, row, of));
            ask("bound", () -> x.isBound(size, row, of));
            ask("root", () -> x.rootOf(size, row, of));
        }
    }

    private void marks(int size, int row) {
        Stitchwright x = begin();
        int count = x.loops(size, row);
        for (int place = 0; place < count; place++) {
            int of = place;
            ask("mark", () -> x.mark(size, row, of));
        }
    }

    private void braids() {
        Stitchwright x = begin();
        for (int size = 0; size < 3; size++) {
            for (int other = 0; other < 3; other++) {
                for (int row = 0; row < 4; row++) {
                    int one = size;
                    int two = other;
                    int of = row;
                    ask("alike", () -> x.areAlike(one, of, two, 3 - of));
                }
            }
        }
    }
}
