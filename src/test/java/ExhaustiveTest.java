import java.util.function.Supplier;

/**
 * All that is small, one behind the other, answered by the class and by the model: all texts of a
 * few signs, all rows of one or two items over a few loops, all acts of a few behind one another.
 * So each edge between what is a row, what closes and what can be done is met from both sides.
 */
public final class ExhaustiveTest {
    private static final Check CHECK = new Check("ExhaustiveTest");
    private static final String SIGNS = "kbA2()[]/";
    private static final int MOST_SIGNS = 6;
    private static final String STITCHES = "kplwymftsxzo";
    private static final String[] ACTS = {"f0", "f1", "f2", "f3", "b0", "b1", "b2", "b3", "r-3", "r-2", "r-1", "r0", "r1", "r2",
        "r3"};
    private static final int MOST_ACTS = 3;

    public static void main(String[] args) {
        texts("");
        rows();
        rowsBehindATurn();
        for (int loops = 1; loops <= 4; loops++) {
            acts(loops, "");
        }
        CHECK.end();
    }

    // Words

    /** A text and all that it can grow to; one that is faulty before its end grows no more. */
    private static void texts(String text) {
        Model model = new Model();
        for (char sign : text.toCharArray()) {
            model.type(sign);
        }
        int due = model.fault();
        CHECK.eq("fault of " + text, Told.fault(text), due);
        if (text.length() < MOST_SIGNS && (due == -1 || due == text.length())) {
            for (char sign : SIGNS.toCharArray()) {
                texts(text + sign);
            }
        }
    }

    // Rows

    private static String[] items() {
        StringBuilder items = new StringBuilder("b");
        for (char stitch : STITCHES.toCharArray()) {
            items.append(' ').append(stitch);
        }
        for (char stitch : "kyftxo".toCharArray()) {
            items.append(' ').append(stitch).append("2 ").append(stitch).append('0');
            items.append(" [").append(stitch).append("] [").append(stitch).append("]1");
        }
        items.append(" (ky)2 (bt)0 [kyp]2 [tb]1 [ko] kA [k2]");
        return items.toString().split(" ");
    }

    private static void rows() {
        for (String first : items()) {
            for (String end : new String[] {"", "/"}) {
                row(first + end);
                for (String second : items()) {
                    row(first + second + end);
                }
            }
        }
    }

    /** A row over 0 to 5 loops, round and flat. */
    private static void row(String row) {
        Stitchwright x = Told.castOn(0);
        Model model = new Model();
        tell(x, model, row);
        for (boolean isFlat : new boolean[] {false, true}) {
            for (int size = 0; size < 3; size++) {
                x.setFlat(size, isFlat);
                model.setFlat(size, isFlat);
            }
            for (int loops = 0; loops <= 5; loops++) {
                int size = loops % 3;
                x.setNumber('A', size, loops);
                model.setNumber('A', size, loops);
                fabric(row + " over " + loops + (isFlat ? ", flat" : ", round"), x, model, size);
            }
        }
    }

    private static void tell(Stitchwright x, Model model, String row) {
        Told.add(x, row);
        for (char sign : row.toCharArray()) {
            model.type(sign);
        }
        model.addRow();
    }

    private static void rowsBehindATurn() {
        for (String first : new String[] {"k/", "pbk/", "kyp2/", "[k]2/", "[p]/", "k0/", "tb/"}) {
            for (String item : items()) {
                for (String end : new String[] {"", "k", "/", "p/"}) {
                    Stitchwright x = Told.castOn(0);
                    Model model = new Model();
                    tell(x, model, first);
                    tell(x, model, item + end);
                    tell(x, model, "w[w]b");
                    for (int size = 0; size < 3; size++) {
                        x.setFlat(size, true);
                        model.setFlat(size, true);
                        x.setNumber('A', size, size + 2);
                        model.setNumber('A', size, size + 2);
                        fabric(first + " " + item + end + " over " + (size + 2), x, model, size);
                    }
                }
            }
        }
    }

    private static void fabric(String what, Stitchwright x, Model model, int size) {
        int last = model.rows(size);
        same(what + ": rows", () -> x.rows(size), last);
        same(what + ": closes", () -> x.closes(size), model.closes(size));
        same(what + ": yarn", () -> x.yarn(size, '*'), model.yarn(size, '*'));
        same(what + ": longest", () -> x.longest(size, last), model.longest(size, last));
        int count = model.loops(size, last);
        same(what + ": loops", () -> x.loops(size, last), count);
        for (int place = 0; place < count && last > 0; place++) {
            int of = place;
            same(what + ": stitch", () -> x.stitch(size, last, of), model.stitch(size, last, of));
            same(what + ": colour", () -> x.colourOf(size, last, of), model.colourOf(size, last, of));
            same(what + ": parent", () -> x.parent(size, last, of, 0), Check.answer(() -> model.parent(size, last, of, 0)));
        }
    }

    private static void same(String what, Supplier<?> call, Object due) {
        CHECK.eq(what, Check.answer(call), due);
    }

    // The machine

    /** Some acts behind one another, and all that can be done behind them; what is refused is gone on with, too. */
    private static void acts(int loops, String done) {
        Stitchwright x = Told.castOn(loops);
        Model model = new Model();
        model.setNumber('A', 0, loops);
        x.hang(0);
        model.hang(0);
        for (String act : done.split(" ")) {
            if (!act.isEmpty()) {
                CHECK.eq(loops + " loops," + done + ": " + act, act(act, x), act(act, model));
            }
        }
        beds(loops + " loops," + done, x, model);
        for (String act : ACTS) {
            if (done.length() - done.replace(" ", "").length() < MOST_ACTS) {
                acts(loops, done + " " + act);
            }
        }
    }

    private static Object act(String act, Stitchwright x) {
        int number = Integer.parseInt(act.substring(1));
        return Check.answer(() -> act.charAt(0) == 'r' ? x.rack(number) : x.transfer(act.charAt(0) == 'f', number));
    }

    private static Object act(String act, Model model) {
        int number = Integer.parseInt(act.substring(1));
        return Check.answer(() -> act.charAt(0) == 'r' ? model.rack(number) : model.transfer(act.charAt(0) == 'f', number));
    }

    private static void beds(String what, Stitchwright x, Model model) {
        CHECK.eq(what + ": acts", x.acts(), model.acts());
        for (int needle = 0; needle < 7; needle++) {
            for (int depth = 0; depth < 2; depth++) {
                int of = needle;
                int deep = depth;
                same(what + ": front " + needle, () -> x.onNeedle(true, of, deep),
                        Check.answer(() -> model.onNeedle(true, of, deep)));
                same(what + ": back " + needle, () -> x.onNeedle(false, of, deep),
                        Check.answer(() -> model.onNeedle(false, of, deep)));
            }
        }
    }
}
