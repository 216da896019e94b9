import java.util.ArrayList;
import java.util.Arrays;
import java.util.List;
import java.util.Random;

/**
 * The promise 22 on long braids: a braid, and behind it one that is brought into nothing by the
 * moves that are allowed, or nearly so. Dynnikov's coordinates tell whether they are alike.
 */
public final class BraidTest {
    private static final Check CHECK = new Check("BraidTest");
    private static final int RUNS = 4000;
    private static int alike = 0;

    public static void main(String[] args) {
        coordinates();
        opposite();
        for (int seed = 0; seed < 60; seed++) {
            widest(new Random(seed));
        }
        for (int seed = 0; seed < RUNS; seed++) {
            run(new Random(seed));
        }
        CHECK.eq("many are alike", alike > RUNS / 5, true);
        CHECK.eq("many are not", alike < RUNS * 4 / 5, true);
        CHECK.end();
    }

    /** All rows full of crossings, on the most strands. */
    private static void widest(Random random) {
        List<String> rows = new ArrayList<>();
        List<Integer> word = new ArrayList<>();
        for (int row = 0; row < 12; row++) {
            List<Integer> crossed = new ArrayList<>();
            for (int place = 1 + row % 2; place < 8; place += 2) {
                crossed.add(random.nextInt(4) == 0 ? place : -place);
            }
            word.addAll(crossed);
            rows.addAll(rows(8, crossed));
        }
        for (int row = 11; row >= 0; row--) {
            String back = rows.get(row).replace('x', 'q').replace('z', 'x').replace('q', 'z');
            rows.add(random.nextInt(30) == 0 ? back.replace("x", "kk") : back);
        }
        Stitchwright x = Told.knit(8, rows.toArray(new String[0]));
        boolean due = true;
        for (int row = 0; row < 12; row++) {
            due &= rows.get(23 - row).equals(rows.get(row).replace('x', 'q').replace('z', 'x').replace('q', 'z'));
        }
        CHECK.eq(rows.toString(), x.areAlike(0, 24, 0, 0), due);
        CHECK.eq(rows + " half", x.areAlike(0, 12, 0, 0), false);
        CHECK.eq(rows + " as itself", x.areAlike(0, 12, 1, 12), true);
    }

    /** One size crosses by x alone, the other by z alone, as often as can be. */
    private static void opposite() {
        Stitchwright x = Told.castOn(8);
        x.setNumber('B', 0, 1);
        x.setNumber('C', 1, 1);
        for (int row = 0; row < 24; row++) {
            Told.add(x, row % 2 == 0 ? "(x4)B(z4)C[k]" : "k(x3)B(z3)C[k]");
        }
        CHECK.eq("84 crossings", x.crossings(0), 84);
        CHECK.eq("as itself", x.areAlike(0, 24, 0, 24), true);
        CHECK.eq("x is not z", x.areAlike(0, 24, 1, 24), false);
        CHECK.eq("x is not nothing", x.areAlike(0, 24, 2, 24), false);
        CHECK.eq("z is not nothing", x.areAlike(1, 24, 2, 24), false);
        CHECK.eq("nothing", x.areAlike(2, 24, 1, 0), true);
    }

    /** The coordinates keep the laws of braids. */
    private static void coordinates() {
        same(List.of(1, -1), List.of());
        same(List.of(-2, 2), List.of());
        same(List.of(1, 2, 1), List.of(2, 1, 2));
        same(List.of(-3, -2, -3), List.of(-2, -3, -2));
        same(List.of(1, -3), List.of(-3, 1));
        CHECK.eq("not the same", Arrays.equals(Model.curve(4, List.of(1, 2)), Model.curve(4, List.of(2, 1))), false);
    }

    private static void same(List<Integer> one, List<Integer> other) {
        for (List<Integer> before : List.of(List.of(1, 2, -3, -1, 2), List.of(-2, -2, 3, 1), List.<Integer>of())) {
            List<Integer> first = new ArrayList<>(before);
            List<Integer> second = new ArrayList<>(before);
            first.addAll(one);
            second.addAll(other);
            CHECK.eq(one + " and " + other, Arrays.asList(Model.curve(4, first)), Arrays.asList(Model.curve(4, second)));
        }
    }

    private static void run(Random random) {
        int strands = 2 + random.nextInt(7);
        List<Integer> before = word(random, strands, random.nextInt(20));
        List<Integer> behind = loose(random, strands);
        List<String> rows = new ArrayList<>(rows(strands, before));
        int row = rows.size();
        rows.addAll(rows(strands, behind));
        if (rows.size() > 24) {
            return;
        }
        Stitchwright x = Told.knit(strands, rows.toArray(new String[0]));
        boolean due = Arrays.equals(Model.curve(strands, behind), Model.curve(strands, List.of()));
        alike += due ? 1 : 0;
        CHECK.eq(rows + " from row " + row, x.areAlike(0, rows.size(), 1, row), due);
        CHECK.eq(rows + " the other way", x.areAlike(2, row, 0, rows.size()), due);
    }

    private static int letter(Random random, int strands) {
        int place = 1 + random.nextInt(strands - 1);
        return random.nextBoolean() ? place : -place;
    }

    private static List<Integer> word(Random random, int strands, int length) {
        List<Integer> word = new ArrayList<>();
        for (int i = 0; i < length; i++) {
            word.add(letter(random, strands));
        }
        return word;
    }

    /** A word and its reverse, moved about; one letter may be changed, so that it is not loose any more. */
    private static List<Integer> loose(Random random, int strands) {
        List<Integer> word = word(random, strands, 1 + random.nextInt(14));
        for (int i = word.size() - 1; i >= 0; i--) {
            word.add(-word.get(i));
        }
        for (int moves = random.nextInt(200); moves > 0; moves--) {
            move(random, strands, word);
        }
        if (random.nextInt(3) == 0) {
            int at = random.nextInt(word.size());
            word.set(at, random.nextBoolean() ? -word.get(at) : letter(random, strands));
        }
        if (random.nextInt(4) == 0) {
            word.addAll(0, List.of(1, 1, -1, strands > 2 ? 2 : 1));
        }
        return word;
    }

    private static void move(Random random, int strands, List<Integer> word) {
        int at = random.nextInt(word.size());
        int a = word.get(at);
        int b = at + 1 < word.size() ? word.get(at + 1) : a;
        int c = at + 2 < word.size() ? word.get(at + 2) : b;
        if (Math.abs(Math.abs(a) - Math.abs(b)) > 1) {
            word.set(at, b);
            word.set(at + 1, a);
        } else if (a == c && Math.abs(a - b) == 1 && a * b > 0) {
            word.set(at, b);
            word.set(at + 1, a);
            word.set(at + 2, b);
        } else if (word.size() < 40 && random.nextInt(3) == 0) {
            int put = letter(random, strands);
            word.add(at, -put);
            word.add(at, put);
        } else if (a == -b && word.size() > 8) {
            word.remove(at);
            word.remove(at);
        }
    }

    /** Rows that cross as the letters tell, as many in a row as go beside one another. */
    private static List<String> rows(int strands, List<Integer> word) {
        List<String> rows = new ArrayList<>();
        char[] row = "k".repeat(strands).toCharArray();
        boolean[] used = new boolean[strands];
        for (int letter : word) {
            int place = Math.abs(letter) - 1;
            if (used[place] || used[place + 1]) {
                rows.add(text(row));
                row = "k".repeat(strands).toCharArray();
                used = new boolean[strands];
            }
            row[place] = letter > 0 ? 'x' : 'z';
            row[place + 1] = ' ';
            used[place] = true;
            used[place + 1] = true;
        }
        rows.add(text(row));
        return rows;
    }

    private static String text(char[] row) {
        return new String(row).replace(" ", "");
    }
}
