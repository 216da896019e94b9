import java.math.BigInteger;
import java.util.ArrayList;
import java.util.Arrays;
import java.util.HashSet;
import java.util.List;
import java.util.NoSuchElementException;
import java.util.Set;
import java.util.regex.Pattern;

/**
 * The document once more, in the plainest form and by other ways than the class: regular
 * expressions for the words, a graph of loops, Dynnikov's coordinates for the braids, and a search
 * by depth for the acts. Random runs compare the two.
 */
final class Model {
    private static final String COUNT = "([0-9]{1,2}|[A-D])?";
    private static final Pattern ROW = Pattern.compile(
            "(" + items(4) + "|\\[(" + items(3) + ")+\\]" + COUNT + ")+/?");

    private static String items(int deep) {
        String plain = "[kplwymftsxzo]" + COUNT + "|[abd]";
        return deep == 0 ? plain : plain + "|\\((" + items(deep - 1) + ")+\\)" + COUNT;
    }

    static boolean isRow(String text) {
        return ROW.matcher(text).matches();
    }

    /** A text can still become a row if one of these behind it makes it one. */
    static boolean canBeRow(String text) {
        for (String item : new String[] {"", "k"}) {
            for (String round : new String[] {"", ")", "))", ")))", "))))"}) {
                if (isRow(text + item + round) || isRow(text + item + round + "]")) {
                    return true;
                }
            }
        }
        return false;
    }

    static final class Loop {
        char stitch;
        char colour;
        int row;
        List<Loop> parents = new ArrayList<>();
        List<Loop> children = new ArrayList<>();
        char bound = 0;
    }

    static final class Failed extends RuntimeException {
        private static final long serialVersionUID = 1;
    }

    private String buffer = "";
    private final List<String> words = new ArrayList<>();
    private final int[][] numbers = new int[4][3];
    private final boolean[] flat = new boolean[3];
    private final Set<List<Integer>> marks = new HashSet<>();
    private int ball = 100;
    private int limit = 4;
    private int gauge = 20;
    private final List<List<Integer>> front = new ArrayList<>();
    private final List<List<Integer>> back = new ArrayList<>();
    private int hung = 0;
    private int racking = 0;
    private int acts = 0;

    Model() {
        for (int i = 0; i < 16; i++) {
            front.add(new ArrayList<>());
            back.add(new ArrayList<>());
        }
    }

    // Words

    int type(char sign) {
        if ("kplwymftsxzoabd()[]/0123456789ABCD".indexOf(sign) < 0) {
            throw new IllegalArgumentException();
        }
        if (buffer.length() == 60) {
            throw new IllegalStateException();
        }
        buffer += sign;
        return buffer.length();
    }

    int clear() {
        int length = buffer.length();
        buffer = "";
        return length;
    }

    int fault() {
        if (isRow(buffer)) {
            return -1;
        }
        int place = 0;
        while (place < buffer.length() && canBeRow(buffer.substring(0, place + 1))) {
            place++;
        }
        return place;
    }

    int addRow() {
        if (!isRow(buffer)) {
            throw new IllegalArgumentException();
        }
        if (words.size() == 24) {
            throw new IllegalStateException();
        }
        words.add(buffer);
        buffer = "";
        return words.size();
    }

    int replace(int row) {
        if (row < 1 || row > words.size()) {
            throw new IndexOutOfBoundsException();
        }
        if (!isRow(buffer)) {
            throw new IllegalArgumentException();
        }
        List<List<Integer>> before = List.of(shape(0), shape(1), shape(2));
        words.set(row - 1, buffer);
        buffer = "";
        int changed = 0;
        for (int size = 0; size < 3; size++) {
            changed += before.get(size).equals(shape(size)) ? 0 : 1;
        }
        return changed;
    }

    private List<Integer> shape(int size) {
        List<Integer> counts = new ArrayList<>();
        for (List<Loop> row : fabric(size)) {
            counts.add(row.size());
        }
        return counts;
    }

    int setNumber(char letter, int size, int number) {
        if ("ABCD".indexOf(letter) < 0 || number < 0 || number > 40) {
            throw new IllegalArgumentException();
        }
        size(size);
        int before = numbers[letter - 'A'][size];
        numbers[letter - 'A'][size] = number;
        return before;
    }

    boolean setFlat(int size, boolean isFlat) {
        size(size);
        boolean before = flat[size];
        flat[size] = isFlat;
        return before;
    }

    /** Tells in how many sizes the pattern would close with one more row. */
    int closedWith(String word) {
        words.add(word);
        int closed = (closes(0) ? 1 : 0) + (closes(1) ? 1 : 0) + (closes(2) ? 1 : 0);
        words.remove(words.size() - 1);
        return closed;
    }

    int rowCount() {
        return words.size();
    }

    private static void size(int size) {
        if (size < 0 || size > 2) {
            throw new IndexOutOfBoundsException();
        }
    }

    // Knitting: a row is worked on what is left, in the way it is worked

    private String text;
    private int at;
    private int ofSize;
    private char colour;
    private List<Loop> left;
    private List<Loop> made;

    private List<List<Loop>> fabric(int size) {
        size(size);
        List<List<Loop>> rows = new ArrayList<>();
        List<Loop> row = new ArrayList<>();
        for (int i = 0; i < numbers[0][size]; i++) {
            Loop loop = new Loop();
            loop.stitch = 'c';
            loop.colour = 'a';
            row.add(loop);
        }
        rows.add(row);
        int waiting = 0;
        for (String word : words) {
            boolean wrongSide = flat[size] && rows.size() % 2 == 0;
            List<Loop> before = rows.get(rows.size() - 1);
            left = new ArrayList<>(before);
            if (wrongSide) {
                java.util.Collections.reverse(left);
            }
            made = new ArrayList<>();
            text = word.replace("/", "");
            boolean turns = !text.equals(word);
            if (before.isEmpty() || turns && !flat[size]) {
                break;
            }
            try {
                stay(waiting);
                ofSize = size;
                colour = 'a';
                at = 0;
                workAll(true);
                waiting = turns ? left.size() : 0;
                stay(waiting);
                if (!left.isEmpty() || made.size() > 60) {
                    throw new Failed();
                }
            } catch (Failed failed) {
                break;
            }
            if (wrongSide) {
                java.util.Collections.reverse(made);
            }
            for (Loop loop : made) {
                loop.row = rows.size();
                for (Loop parent : loop.parents) {
                    parent.children.add(loop);
                }
            }
            rows.add(made);
        }
        if (rows.size() <= words.size()) {
            for (Loop loop : rows.get(rows.size() - 1)) {
                loop.bound = 0;
            }
        }
        return rows;
    }

    private void stay(int count) {
        for (int i = 0; i < count; i++) {
            Loop loop = left.remove(0);
            make('h', loop.colour, loop);
        }
    }

    private Loop take() {
        if (left.isEmpty()) {
            throw new Failed();
        }
        return left.remove(0);
    }

    private void make(char stitch, char ofColour, Loop... parents) {
        Loop loop = new Loop();
        loop.stitch = stitch;
        loop.colour = ofColour;
        loop.parents.addAll(Arrays.asList(parents));
        made.add(loop);
        if (made.size() > 60) {
            throw new Failed();
        }
    }

    private int count(int otherwise) {
        String told = "";
        while (at < text.length() && told.length() < 2 && "0123456789ABCD".indexOf(text.charAt(at)) >= 0) {
            told += text.charAt(at);
            at++;
        }
        if (told.isEmpty()) {
            return otherwise;
        }
        return told.charAt(0) >= 'A' ? numbers[told.charAt(0) - 'A'][ofSize] : Integer.parseInt(told);
    }

    /** Works items from here to a closing bracket or the end, or goes over them; answers how many they take once. */
    private long workAll(boolean works) {
        long takes = 0;
        while (at < text.length() && text.charAt(at) != ')' && text.charAt(at) != ']') {
            char sign = text.charAt(at);
            at++;
            if (sign == '(' || sign == '[') {
                int begin = at;
                long once = workAll(false);
                at++;
                long times = count(sign == '[' ? 0 : 1);
                int end = at;
                if (sign == '[') {
                    times = once == 0 ? 0 : Math.max(0, Math.floorDiv(left.size() - times, once));
                }
                takes += times * once;
                int still = 0;
                for (long i = 0; works && i < times && still < 3; i++) {
                    int before = left.size() * 1000 - made.size();
                    at = begin;
                    workAll(true);
                    still = before == left.size() * 1000 - made.size() ? still + 1 : 0;
                }
                at = end;
            } else if ("abd".indexOf(sign) >= 0) {
                colour = works ? sign : colour;
            } else {
                int times = count(1);
                takes += (long) times * ("ym".indexOf(sign) >= 0 ? 0 : "tsxz".indexOf(sign) >= 0 ? 2 : 1);
                for (int i = 0; works && i < times; i++) {
                    work(sign);
                }
            }
        }
        return takes;
    }

    private void work(char sign) {
        if (sign == 'y' || sign == 'm') {
            make(sign, colour);
            return;
        }
        Loop a = take();
        if (sign == 'k' || sign == 'p' || sign == 'l') {
            make(sign, colour, a);
        } else if (sign == 'w') {
            make(a.stitch == 'p' ? 'p' : 'k', colour, a);
        } else if (sign == 'f') {
            make(sign, colour, a);
            make(sign, colour, a);
        } else if (sign == 'o') {
            a.bound = colour;
        } else {
            Loop b = take();
            if (sign == 't' || sign == 's') {
                make(sign, colour, a, b);
            } else {
                make(sign, colour, b);
                make(sign, colour, a);
            }
        }
    }

    // The fabric

    int rows(int size) {
        return fabric(size).size() - 1;
    }

    boolean closes(int size) {
        return rows(size) == words.size() && numbers[0][size] > 0;
    }

    private List<Loop> row(int size, int row) {
        List<List<Loop>> rows = fabric(size);
        if (row < 0 || row >= rows.size()) {
            throw new NoSuchElementException();
        }
        return rows.get(row);
    }

    private Loop loop(List<List<Loop>> rows, int row, int index) {
        if (row < 0 || row >= rows.size() || index < 0 || index >= rows.get(row).size()) {
            throw new IndexOutOfBoundsException();
        }
        return rows.get(row).get(index);
    }

    private Loop loop(int size, int row, int index) {
        return loop(fabric(size), row, index);
    }

    int loops(int size, int row) {
        return row(size, row).size();
    }

    char stitch(int size, int row, int index) {
        return loop(size, row, index).stitch;
    }

    char seen(int size, int row, int index) {
        char stitch = stitch(size, row, index);
        boolean wrongSide = flat[size] && row % 2 == 0;
        return wrongSide && stitch == 'k' ? 'p' : wrongSide && stitch == 'p' ? 'k' : stitch;
    }

    char colourOf(int size, int row, int index) {
        return loop(size, row, index).colour;
    }

    int parent(int size, int row, int index, int which) {
        List<List<Loop>> rows = fabric(size);
        Loop loop = loop(rows, row, index);
        if (which < 0 || which >= loop.parents.size()) {
            throw new NoSuchElementException();
        }
        return rows.get(row - 1).indexOf(loop.parents.get(which));
    }

    int children(int size, int row, int index) {
        return loop(size, row, index).children.size();
    }

    boolean isBound(int size, int row, int index) {
        return loop(size, row, index).bound != 0;
    }

    private Set<Loop> falling(List<List<Loop>> rows, int index) {
        Set<Loop> falling = new HashSet<>();
        falling.add(loop(rows, rows.size() - 1, index));
        for (int row = rows.size() - 2; row >= 0; row--) {
            for (Loop loop : rows.get(row)) {
                if (loop.bound == 0 && falling.containsAll(loop.children)) {
                    falling.add(loop);
                }
            }
        }
        return falling;
    }

    int unravel(int size, int index) {
        return falling(fabric(size), index).size();
    }

    boolean falls(int size, int index, int row, int loop) {
        List<List<Loop>> rows = fabric(size);
        return falling(rows, index).contains(loop(rows, row, loop));
    }

    int rootOf(int size, int row, int index) {
        List<List<Loop>> rows = fabric(size);
        Loop loop = loop(rows, row, index);
        while (loop.row > 0) {
            if (loop.parents.isEmpty()) {
                throw new NoSuchElementException();
            }
            loop = loop.parents.get(0);
        }
        return rows.get(0).indexOf(loop);
    }

    int crossings(int size) {
        int made = 0;
        for (List<Loop> row : fabric(size)) {
            for (Loop loop : row) {
                made += loop.stitch == 'x' || loop.stitch == 'z' ? 1 : 0;
            }
        }
        return made / 2;
    }

    /** The crossings of a braid from 1 on, those of z below 0; null if it is no braid. */
    private List<Integer> word(int size, int last) {
        List<List<Loop>> rows = fabric(size);
        List<Integer> word = new ArrayList<>();
        int strands = rows.get(0).size();
        if (strands < 2 || strands > 8) {
            return null;
        }
        for (int row = 1; row <= last; row++) {
            if (rows.get(row).size() != strands) {
                return null;
            }
            for (int place = 0; place < strands; place++) {
                Loop loop = rows.get(row).get(place);
                if ("kplxz".indexOf(loop.stitch) < 0) {
                    return null;
                }
                if (place + 1 < strands && loop.parents.get(0) == rows.get(row - 1).get(place + 1)) {
                    word.add(loop.stitch == 'x' ? place + 1 : -place - 1);
                }
            }
        }
        return word;
    }

    boolean areAlike(int size, int row, int other, int otherRow) {
        size(size);
        size(other);
        row(size, row);
        row(other, otherRow);
        List<Integer> one = word(size, row);
        List<Integer> two = word(other, otherRow);
        if (one == null || two == null || numbers[0][size] != numbers[0][other]) {
            throw new UnsupportedOperationException();
        }
        return Arrays.equals(curve(numbers[0][size], one), curve(numbers[0][size], two));
    }

    /** Dynnikov's coordinates of a braid: two braids are the same if these are. */
    static BigInteger[] curve(int strands, List<Integer> word) {
        BigInteger[] c = new BigInteger[2 * strands];
        for (int i = 0; i < strands; i++) {
            c[2 * i] = BigInteger.ZERO;
            c[2 * i + 1] = BigInteger.ONE;
        }
        for (int letter : word) {
            int at = 2 * (Math.abs(letter) - 1);
            BigInteger x1 = c[at];
            BigInteger y1 = c[at + 1];
            BigInteger x2 = c[at + 2];
            BigInteger y2 = c[at + 3];
            if (letter > 0) {
                BigInteger z = x1.subtract(low(y1)).subtract(x2).add(high(y2));
                c[at] = x1.add(high(y1)).add(high(high(y2).subtract(z)));
                c[at + 1] = y2.subtract(high(z));
                c[at + 2] = x2.add(low(y2)).add(low(low(y1).add(z)));
                c[at + 3] = y1.add(high(z));
            } else {
                BigInteger z = x1.add(low(y1)).subtract(x2).subtract(high(y2));
                c[at] = x1.subtract(high(y1)).subtract(high(high(y2).add(z)));
                c[at + 1] = y2.add(low(z));
                c[at + 2] = x2.subtract(low(y2)).subtract(low(low(y1).subtract(z)));
                c[at + 3] = y1.subtract(low(z));
            }
        }
        return c;
    }

    private static BigInteger high(BigInteger x) {
        return x.max(BigInteger.ZERO);
    }

    private static BigInteger low(BigInteger x) {
        return x.min(BigInteger.ZERO);
    }

    // Mending and measures

    boolean mark(int size, int row, int index) {
        loop(size, row, index);
        List<Integer> mark = List.of(size, row, index);
        if (!marks.remove(mark)) {
            marks.add(mark);
        }
        return marks.contains(mark);
    }

    int undone(int size) {
        Set<Loop> undone = new HashSet<>();
        List<List<Loop>> rows = fabric(size);
        for (int r = 0; r < rows.size(); r++) {
            List<Loop> row = rows.get(r);
            Set<Loop> first = new HashSet<>();
            for (int i = 0; i < row.size(); i++) {
                boolean comes = false;
                for (Loop parent : row.get(i).parents) {
                    comes |= undone.contains(parent);
                }
                if (comes || marks.contains(List.of(size, r, i))) {
                    first.add(row.get(i));
                }
            }
            undone.addAll(first);
            for (int i = 0; i < row.size(); i++) {
                Loop lower = null;
                Loop higher = null;
                for (int j = 0; j < row.size(); j++) {
                    Loop loop = row.get(j);
                    lower = j < i && !loop.parents.isEmpty() ? loop : lower;
                    higher = j > i && higher == null && !loop.parents.isEmpty() ? loop : higher;
                }
                if (row.get(i).parents.isEmpty() && first.contains(lower) && first.contains(higher)) {
                    undone.add(row.get(i));
                }
            }
        }
        return undone.size();
    }

    private static void colour(char colour) {
        if (colour != 'a' && colour != 'b' && colour != 'd') {
            throw new IllegalArgumentException();
        }
    }

    private int yarnUpTo(List<List<Loop>> rows, int last, char colour) {
        int sum = 0;
        for (int row = 0; row <= last; row++) {
            for (Loop loop : rows.get(row)) {
                int takes = "kplmf".indexOf(loop.stitch) >= 0 ? 3 : "cy".indexOf(loop.stitch) >= 0 ? 2
                        : "ts".indexOf(loop.stitch) >= 0 ? 4 : "xz".indexOf(loop.stitch) >= 0 ? 5 : 0;
                sum += colour == '*' || loop.colour == colour ? takes : 0;
                sum += row < last && loop.bound != 0 && (colour == '*' || loop.bound == colour) ? 2 : 0;
            }
        }
        return sum;
    }

    int yarn(int size, char colour) {
        List<List<Loop>> rows = fabric(size);
        if (colour != '*') {
            colour(colour);
        }
        return yarnUpTo(rows, rows.size() - 1, colour);
    }

    private static void between(int number, int low, int high) {
        if (number < low || number > high) {
            throw new IllegalArgumentException();
        }
    }

    int setBall(int length) {
        between(length, 10, 999);
        int before = ball;
        ball = length;
        return before;
    }

    int ballEnd(int size, char colour, int number) {
        List<List<Loop>> rows = fabric(size);
        colour(colour);
        between(number, 0, Integer.MAX_VALUE);
        for (int row = 0; row < rows.size(); row++) {
            if (yarnUpTo(rows, row, colour) / ball > number) {
                return row;
            }
        }
        throw new NoSuchElementException();
    }

    int setFloat(int to) {
        between(to, 1, 20);
        int before = limit;
        limit = to;
        return before;
    }

    private static List<Integer> floats(List<Loop> row) {
        StringBuilder colours = new StringBuilder();
        for (Loop loop : row) {
            colours.append(loop.stitch == 'h' ? "" : loop.colour);
        }
        List<Integer> floats = new ArrayList<>();
        for (int from = 0; from < colours.length(); from++) {
            int next = colours.indexOf(colours.substring(from, from + 1), from + 1);
            if (next > from + 1) {
                floats.add(next - from - 1);
            }
        }
        return floats;
    }

    int longest(int size, int row) {
        size(size);
        int most = 0;
        for (int length : floats(row(size, row))) {
            most = Math.max(most, length);
        }
        return most;
    }

    int catches(int size) {
        int sum = 0;
        for (List<Loop> row : fabric(size)) {
            for (int length : floats(row)) {
                sum += length / (limit + 1);
            }
        }
        return sum;
    }

    int setGauge(int loops) {
        between(loops, 1, 60);
        int before = gauge;
        gauge = loops;
        return before;
    }

    int width(int size, int row) {
        return row(size, row).size() * 100 / gauge;
    }

    int shapeRow(int loops, int rows, int index) {
        between(loops, 1, 40);
        between(rows, loops, 200);
        if (index < 0 || index >= loops) {
            throw new IndexOutOfBoundsException();
        }
        return (index + 1) * rows / loops;
    }

    // The machine

    int hang(int size) {
        List<List<Loop>> rows = fabric(size);
        int count = rows.get(rows.size() - 1).size();
        if (count > 16) {
            throw new UnsupportedOperationException();
        }
        for (int i = 0; i < 16; i++) {
            front.get(i).clear();
            back.get(i).clear();
            if (i < count) {
                front.get(i).add(i);
            }
        }
        hung = count;
        racking = 0;
        acts = 0;
        return count;
    }

    private int placeOf(int loop, int atRacking) {
        for (int i = 0; i < 16; i++) {
            if (front.get(i).contains(loop)) {
                return i;
            }
            if (back.get(i).contains(loop)) {
                return i + atRacking;
            }
        }
        throw new IllegalStateException("a loop is lost");
    }

    int rack(int to) {
        between(to, -3, 3);
        for (int i = 0; i + 1 < hung; i++) {
            if (Math.abs(placeOf(i, to) - placeOf(i + 1, to)) > 3) {
                throw new UnsupportedOperationException();
            }
        }
        int before = racking;
        racking = to;
        acts += before == to ? 0 : 1;
        return before;
    }

    int transfer(boolean isFront, int needle) {
        if (needle < 0 || needle > 15) {
            throw new IndexOutOfBoundsException();
        }
        List<Integer> from = (isFront ? front : back).get(needle);
        int across = isFront ? needle - racking : needle + racking;
        if (from.isEmpty() || across < 0 || across > 15) {
            throw new NoSuchElementException();
        }
        List<Integer> to = (isFront ? back : front).get(across);
        if (from.size() + to.size() > 3) {
            throw new UnsupportedOperationException();
        }
        to.addAll(from);
        from.clear();
        acts++;
        return to.size();
    }

    int onNeedle(boolean isFront, int needle, int depth) {
        if (needle < 0 || needle > 15) {
            throw new IndexOutOfBoundsException();
        }
        List<Integer> loops = (isFront ? front : back).get(needle);
        if (depth < 0 || depth >= loops.size()) {
            throw new NoSuchElementException();
        }
        return loops.get(depth);
    }

    int acts() {
        return acts;
    }

    int leastActs(int needle) {
        if (needle < 0 || needle > 14) {
            throw new IndexOutOfBoundsException();
        }
        if (front.get(needle).size() != 1 || front.get(needle + 1).size() != 1 || racking != 0) {
            throw new UnsupportedOperationException();
        }
        List<Integer> one = List.copyOf(front.get(needle));
        List<Integer> two = List.copyOf(front.get(needle + 1));
        front.get(needle).clear();
        front.get(needle + 1).clear();
        int least = 0;
        while (least <= 8 && !canSwap(new int[] {1, needle, 1, needle + 1, 0}, needle, least)) {
            least++;
        }
        front.get(needle).addAll(one);
        front.get(needle + 1).addAll(two);
        if (least > 8) {
            throw new NoSuchElementException();
        }
        return least;
    }

    /** Tells whether two loops get to each other's needles by just so many acts: bed and needle of both, racking. */
    private boolean canSwap(int[] state, int needle, int left) {
        if (left == 0) {
            return Arrays.equals(state, new int[] {1, needle + 1, 1, needle, 0});
        }
        // Two rackings behind one another are never needed.
        int lacking = (state[0] == 1 ? 0 : 1) + (state[2] == 1 ? 0 : 1) + (state[4] == 0 ? 0 : 1);
        if (lacking > left) {
            return false;
        }
        for (int to = -3; to <= 3; to++) {
            int[] next = state.clone();
            next[4] = to;
            if (to != state[4] && canSwap(next, needle, left - 1)) {
                return true;
            }
        }
        for (int loop = 0; loop < 4; loop += 2) {
            int[] next = state.clone();
            next[loop] = 1 - state[loop];
            next[loop + 1] = state[loop + 1] + (state[loop] == 1 ? -state[4] : state[4]);
            boolean isThere = next[loop + 1] >= 0 && next[loop + 1] <= 15;
            boolean alone = state[0] != state[2] || state[1] != state[3];
            if (isThere && alone && (next[loop] == 1 ? front : back).get(next[loop + 1]).isEmpty()
                    && canSwap(next, needle, left - 1)) {
                return true;
            }
        }
        return false;
    }

    // Figures

    long checksum() {
        long sum = 0;
        for (int size = 0; size < 3; size++) {
            for (int count : shape(size)) {
                sum = 31 * sum + count;
            }
        }
        return sum;
    }

    float closedShare() {
        return ((closes(0) ? 1 : 0) + (closes(1) ? 1 : 0) + (closes(2) ? 1 : 0)) / 3f;
    }

    double meanLoops() {
        int sum = 0;
        int count = 0;
        for (int size = 0; size < 3; size++) {
            for (int loops : shape(size)) {
                sum += loops;
                count++;
            }
        }
        return (double) sum / count;
    }

    boolean isSound() {
        return true;
    }
}
