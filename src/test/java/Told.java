/** Short ways to tell a pattern. */
final class Told {
    private Told() {
    }

    static Stitchwright empty() {
        return new Stitchwright();
    }

    /** A pattern with so many loops cast on in all three sizes. */
    static Stitchwright castOn(int loops) {
        Stitchwright x = new Stitchwright();
        for (int size = 0; size < 3; size++) {
            x.setNumber('A', size, loops);
        }
        return x;
    }

    /** A pattern of such rows over so many loops, round in all sizes. */
    static Stitchwright knit(int loops, String... rows) {
        Stitchwright x = castOn(loops);
        for (String row : rows) {
            add(x, row);
        }
        return x;
    }

    /** The same, flat in all sizes. */
    static Stitchwright flat(int loops, String... rows) {
        Stitchwright x = knit(loops, rows);
        for (int size = 0; size < 3; size++) {
            x.setFlat(size, true);
        }
        return x;
    }

    static void buffer(Stitchwright x, String text) {
        x.clear();
        for (char sign : text.toCharArray()) {
            x.type(sign);
        }
    }

    static int add(Stitchwright x, String row) {
        buffer(x, row);
        return x.addRow();
    }

    static int replace(Stitchwright x, int at, String row) {
        buffer(x, row);
        return x.replace(at);
    }

    static int fault(String text) {
        Stitchwright x = new Stitchwright();
        buffer(x, text);
        return x.fault();
    }

    /** The stitches of a row from the place 0 on. */
    static String stitches(Stitchwright x, int size, int row) {
        StringBuilder text = new StringBuilder();
        for (int i = 0; i < x.loops(size, row); i++) {
            text.append(x.stitch(size, row, i));
        }
        return text.toString();
    }

    static String seen(Stitchwright x, int size, int row) {
        StringBuilder text = new StringBuilder();
        for (int i = 0; i < x.loops(size, row); i++) {
            text.append(x.seen(size, row, i));
        }
        return text.toString();
    }

    static String colours(Stitchwright x, int size, int row) {
        StringBuilder text = new StringBuilder();
        for (int i = 0; i < x.loops(size, row); i++) {
            text.append(x.colourOf(size, row, i));
        }
        return text.toString();
    }

    /** The parents of a row's loops: the first ones, + and the second one where there is one, - where there is none. */
    static String parents(Stitchwright x, int size, int row) {
        StringBuilder text = new StringBuilder();
        for (int i = 0; i < x.loops(size, row); i++) {
            int place = i;
            Object first = Check.answer(() -> x.parent(size, row, place, 0));
            Object second = Check.answer(() -> x.parent(size, row, place, 1));
            text.append(i == 0 ? "" : " ").append(first instanceof Integer ? first : "-");
            text.append(second instanceof Integer ? "+" + second : "");
        }
        return text.toString();
    }

    /** How many loops each row has, from the row 0 on. */
    static String shape(Stitchwright x, int size) {
        StringBuilder text = new StringBuilder();
        for (int row = 0; row <= x.rows(size); row++) {
            text.append(row == 0 ? "" : " ").append(x.loops(size, row));
        }
        return text.toString();
    }
}
