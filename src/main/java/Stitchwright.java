import java.util.Arrays;
import java.util.NoSuchElementException;

/**
 * A knitting pattern told row by row, the fabrics that come of it in three sizes, and a machine
 * with two beds onto which a fabric can be hung. The document ../shared/DOC.md says what each
 * call answers.
 */
public final class Stitchwright {
    private static final int SIZES = 3;
    private static final int MOST_ROWS = 24;
    private static final int MOST_SIGNS = 60;
    private static final int MOST_LOOPS = 60;
    private static final int MOST_DEEP = 4;
    private static final int LETTERS = 4;
    private static final int MOST_NUMBER = 40;
    private static final int MOST_STRANDS = 8;
    private static final int NONE = -1;
    private static final String SIGNS = "kplwymftsxzoabd()[]/0123456789ABCD";
    private static final String STITCHES = "kplwymftsxzo";
    private static final String TAKE_ONE = "kplwfo";
    private static final String TAKE_TWO = "tsxz";
    private static final String COLOURS = "abd";

    private final Pattern pattern = new Pattern();
    private final Size firstSize = new Size(pattern);
    private final Size secondSize = new Size(pattern);
    private final Size thirdSize = new Size(pattern);
    private final Braid oneBraid = new Braid();
    private final Braid otherBraid = new Braid();
    private final Machine machine = new Machine();
    private final Exchange exchange = new Exchange();
    private int ballLength = 100;
    private int floatLimit = 4;
    private int gauge = 20;

    public Stitchwright() {
    }

    // Words and sizes

    public int type(char sign) throws IllegalArgumentException, IllegalStateException {
        if (SIGNS.indexOf(sign) < 0) {
            throw new IllegalArgumentException("no such sign");
        }
        if (pattern.lengthOf(Pattern.BUFFER) >= MOST_SIGNS) {
            throw new IllegalStateException("the buffer is full");
        }
        pattern.append(sign);
        return pattern.lengthOf(Pattern.BUFFER);
    }

    public int clear() {
        int length = pattern.lengthOf(Pattern.BUFFER);
        pattern.emptyBuffer();
        return length;
    }

    public int fault() {
        return pattern.faultyPlace();
    }

    public int addRow() throws IllegalArgumentException, IllegalStateException {
        requireRowInBuffer();
        if (pattern.rowCount() >= MOST_ROWS) {
            throw new IllegalStateException("the pattern is full");
        }
        pattern.addBuffer();
        for (int size = 0; size < SIZES; size++) {
            sizeOf(size).knit();
        }
        return pattern.rowCount();
    }

    public int replace(int row) throws IndexOutOfBoundsException, IllegalArgumentException {
        if (row < 1 || row > pattern.rowCount()) {
            throw new IndexOutOfBoundsException("no such row");
        }
        requireRowInBuffer();
        pattern.keepBufferAs(row);
        int changed = 0;
        for (int size = 0; size < SIZES; size++) {
            changed += sizeOf(size).knit() ? 1 : 0;
        }
        return changed;
    }

    public int setNumber(char letter, int size, int number) throws IllegalArgumentException, IndexOutOfBoundsException {
        int index = letter - 'A';
        if (index < 0 || index >= LETTERS || number < 0 || number > MOST_NUMBER) {
            throw new IllegalArgumentException("no such letter or number");
        }
        Size told = sizeOf(size);
        int before = told.numberOf(index);
        told.tellNumber(index, number);
        told.knit();
        return before;
    }

    public boolean setFlat(int size, boolean isFlat) throws IndexOutOfBoundsException {
        Size told = sizeOf(size);
        boolean before = told.isFlat();
        told.tellFlat(isFlat);
        told.knit();
        return before;
    }

    // The fabric

    public int rows(int size) throws IndexOutOfBoundsException {
        return fabricOf(size).lastRow();
    }

    public boolean closes(int size) throws IndexOutOfBoundsException {
        return sizeOf(size).isClosed();
    }

    public int loops(int size, int row) throws IndexOutOfBoundsException, NoSuchElementException {
        Fabric fabric = fabricOf(size);
        requireRow(fabric, row);
        return fabric.countOf(row);
    }

    public char stitch(int size, int row, int index) throws IndexOutOfBoundsException {
        return fabricWith(size, row, index).stitchAt(row, index);
    }

    public char seen(int size, int row, int index) throws IndexOutOfBoundsException {
        char made = fabricWith(size, row, index).stitchAt(row, index);
        if (!sizeOf(size).isWrongSide(row)) {
            return made;
        }
        return made == 'k' ? 'p' : made == 'p' ? 'k' : made;
    }

    public char colourOf(int size, int row, int index) throws IndexOutOfBoundsException {
        return fabricWith(size, row, index).colourAt(row, index);
    }

    public int parent(int size, int row, int index, int which) throws IndexOutOfBoundsException, NoSuchElementException {
        Fabric fabric = fabricWith(size, row, index);
        int place = which == 0 ? fabric.firstParent(row, index) : which == 1 ? fabric.secondParent(row, index) : NONE;
        return requirePlace(place);
    }

    public int children(int size, int row, int index) throws IndexOutOfBoundsException {
        return fabricWith(size, row, index).childCount(row, index);
    }

    public boolean isBound(int size, int row, int index) throws IndexOutOfBoundsException {
        return fabricWith(size, row, index).wasBound(row, index);
    }

    public int unravel(int size, int index) throws IndexOutOfBoundsException {
        Fabric fabric = fabricWith(size, fabricOf(size).lastRow(), index);
        fabric.drop(index);
        return fabric.flagged();
    }

    public boolean falls(int size, int index, int row, int loop) throws IndexOutOfBoundsException {
        Fabric fabric = fabricWith(size, row, loop);
        requireLoop(fabric, fabric.lastRow(), index);
        fabric.drop(index);
        return fabric.isFlagged(row, loop);
    }

    public int rootOf(int size, int row, int index) throws IndexOutOfBoundsException, NoSuchElementException {
        return requirePlace(fabricWith(size, row, index).castOnPlace(row, index));
    }

    public int crossings(int size) throws IndexOutOfBoundsException {
        Fabric fabric = fabricOf(size);
        return fabric.crossed('x', fabric.lastRow()) + fabric.crossed('z', fabric.lastRow());
    }

    public boolean areAlike(int size, int row, int other, int otherRow)
            throws IndexOutOfBoundsException, NoSuchElementException, UnsupportedOperationException {
        Fabric one = fabricOf(size);
        Fabric two = fabricOf(other);
        requireRow(one, row);
        requireRow(two, otherRow);
        if (!one.isBraid(row) || !two.isBraid(otherRow) || one.countOf(0) != two.countOf(0)) {
            throw new UnsupportedOperationException("no two braids of as many loops");
        }
        int halfTurns = Math.max(one.crossed('z', row), two.crossed('z', otherRow));
        oneBraid.read(one, row, halfTurns);
        otherBraid.read(two, otherRow, halfTurns);
        return oneBraid.isSameAs(otherBraid);
    }

    // Mending and measures

    public boolean mark(int size, int row, int index) throws IndexOutOfBoundsException {
        return fabricWith(size, row, index).turnMark(row, index);
    }

    public int undone(int size) throws IndexOutOfBoundsException {
        Fabric fabric = fabricOf(size);
        fabric.mend();
        return fabric.flagged();
    }

    public int yarn(int size, char colour) throws IndexOutOfBoundsException, IllegalArgumentException {
        Fabric fabric = fabricOf(size);
        if (colour != '*') {
            requireColour(colour);
        }
        int sum = 0;
        for (int row = 0; row <= fabric.lastRow(); row++) {
            sum += fabric.yarnOfRow(row, colour);
        }
        return sum;
    }

    public int setBall(int length) throws IllegalArgumentException {
        requireBetween(length, 10, 999);
        int before = ballLength;
        ballLength = length;
        return before;
    }

    public int ballEnd(int size, char colour, int ball)
            throws IndexOutOfBoundsException, IllegalArgumentException, NoSuchElementException {
        Fabric fabric = fabricOf(size);
        requireColour(colour);
        if (ball < 0) {
            throw new IllegalArgumentException("no such ball");
        }
        long wound = (ball + 1L) * ballLength;
        int used = 0;
        int end = NONE;
        for (int row = 0; row <= fabric.lastRow() && end == NONE; row++) {
            used += fabric.yarnOfRow(row, colour);
            end = used >= wound ? row : NONE;
        }
        return requirePlace(end);
    }

    public int setFloat(int limit) throws IllegalArgumentException {
        requireBetween(limit, 1, 20);
        int before = floatLimit;
        floatLimit = limit;
        return before;
    }

    public int longest(int size, int row) throws IndexOutOfBoundsException, NoSuchElementException {
        Fabric fabric = fabricOf(size);
        requireRow(fabric, row);
        int most = 0;
        for (int place = 0; place < fabric.countOf(row); place++) {
            most = Math.max(most, fabric.floatBefore(row, place));
        }
        return most;
    }

    public int catches(int size) throws IndexOutOfBoundsException {
        Fabric fabric = fabricOf(size);
        int sum = 0;
        for (int row = 0; row <= fabric.lastRow(); row++) {
            for (int place = 0; place < fabric.countOf(row); place++) {
                sum += fabric.floatBefore(row, place) / Math.max(1, floatLimit + 1);
            }
        }
        return sum;
    }

    public int setGauge(int loops) throws IllegalArgumentException {
        requireBetween(loops, 1, 60);
        int before = gauge;
        gauge = loops;
        return before;
    }

    public int width(int size, int row) throws IndexOutOfBoundsException, NoSuchElementException {
        Fabric fabric = fabricOf(size);
        requireRow(fabric, row);
        return fabric.countOf(row) * 100 / Math.max(1, gauge);
    }

    public int shapeRow(int loops, int rows, int index) throws IllegalArgumentException, IndexOutOfBoundsException {
        if (loops < 1 || loops > 40 || rows < loops || rows > 200) {
            throw new IllegalArgumentException("no such shaping");
        }
        if (index < 0 || index >= loops) {
            throw new IndexOutOfBoundsException("no such loop");
        }
        return (index + 1) * rows / loops;
    }

    // The machine

    public int hang(int size) throws IndexOutOfBoundsException, UnsupportedOperationException {
        Fabric fabric = fabricOf(size);
        int count = fabric.countOf(fabric.lastRow());
        if (count > Machine.NEEDLES) {
            throw new UnsupportedOperationException("too many loops for a bed");
        }
        machine.take(count);
        return count;
    }

    public int rack(int racking) throws IllegalArgumentException, UnsupportedOperationException {
        requireBetween(racking, -Machine.MOST_RACKING, Machine.MOST_RACKING);
        if (!machine.staysTogether(racking)) {
            throw new UnsupportedOperationException("loops would be too far apart");
        }
        int before = machine.racking();
        machine.rackTo(racking);
        return before;
    }

    public int transfer(boolean isFront, int needle)
            throws IndexOutOfBoundsException, NoSuchElementException, UnsupportedOperationException {
        int from = requireNeedle(isFront, needle);
        int to = Machine.opposite(from, machine.racking());
        if (machine.heldBy(from) == 0 || to == NONE) {
            throw new NoSuchElementException("nothing to transfer, or nowhere to");
        }
        if (machine.heldBy(from) + machine.heldBy(to) > Machine.MOST_HELD) {
            throw new UnsupportedOperationException("the needle opposite would hold too many");
        }
        // Loops never come too far apart by this: a back needle counts as the front one opposite.
        machine.move(from, to);
        return machine.heldBy(to);
    }

    public int onNeedle(boolean isFront, int needle, int depth) throws IndexOutOfBoundsException, NoSuchElementException {
        return requirePlace(machine.loopOn(requireNeedle(isFront, needle), depth));
    }

    public int acts() {
        return machine.actCount();
    }

    public int leastActs(int needle) throws IndexOutOfBoundsException, UnsupportedOperationException, NoSuchElementException {
        if (needle < 0 || needle >= Machine.NEEDLES - 1) {
            throw new IndexOutOfBoundsException("no such pair of needles");
        }
        if (machine.heldBy(needle) != 1 || machine.heldBy(needle + 1) != 1 || machine.racking() != 0) {
            throw new UnsupportedOperationException("no two single loops, or racked");
        }
        return requirePlace(exchange.fewestActs(machine, needle));
    }

    // Figures

    public long checksum() {
        long sum = 0;
        for (int size = 0; size < SIZES; size++) {
            Fabric fabric = fabricOf(size);
            for (int row = 0; row <= fabric.lastRow(); row++) {
                sum = 31 * sum + fabric.countOf(row);
            }
        }
        return sum;
    }

    public float closedShare() {
        int closed = 0;
        for (int size = 0; size < SIZES; size++) {
            closed += sizeOf(size).isClosed() ? 1 : 0;
        }
        return (float) closed / (float) SIZES;
    }

    public double meanLoops() {
        int sum = 0;
        int count = 0;
        for (int size = 0; size < SIZES; size++) {
            Fabric fabric = fabricOf(size);
            for (int row = 0; row <= fabric.lastRow(); row++) {
                sum += fabric.countOf(row);
                count++;
            }
        }
        return (double) sum / (double) Math.max(1, count);
    }

    public boolean isSound() {
        boolean sound = true;
        for (int size = 0; size < SIZES; size++) {
            sound = sound && fabricOf(size).noLoopRuns();
        }
        return sound;
    }

    // What the calls share

    private Size sizeOf(int size) throws IndexOutOfBoundsException {
        if (size < 0 || size >= SIZES) {
            throw new IndexOutOfBoundsException("no such size");
        }
        return size == 0 ? firstSize : size == 1 ? secondSize : thirdSize;
    }

    private Fabric fabricOf(int size) throws IndexOutOfBoundsException {
        return sizeOf(size).fabric();
    }

    private Fabric fabricWith(int size, int row, int index) throws IndexOutOfBoundsException {
        Fabric fabric = fabricOf(size);
        requireLoop(fabric, row, index);
        return fabric;
    }

    private static void requireLoop(Fabric fabric, int row, int index) throws IndexOutOfBoundsException {
        if (!fabric.has(row, index)) {
            throw new IndexOutOfBoundsException("no such loop");
        }
    }

    private static void requireRow(Fabric fabric, int row) throws NoSuchElementException {
        if (row < 0 || row > fabric.lastRow()) {
            throw new NoSuchElementException("no such row in the fabric");
        }
    }

    private static int requirePlace(int place) throws NoSuchElementException {
        if (place < 0) {
            throw new NoSuchElementException("there is none");
        }
        return place;
    }

    private static void requireColour(char colour) throws IllegalArgumentException {
        if (COLOURS.indexOf(colour) < 0) {
            throw new IllegalArgumentException("no such colour");
        }
    }

    private static void requireBetween(int number, int least, int most) throws IllegalArgumentException {
        if (number < least || number > most) {
            throw new IllegalArgumentException("out of range");
        }
    }

    private static int requireNeedle(boolean isFront, int needle) throws IndexOutOfBoundsException {
        if (needle < 0 || needle >= Machine.NEEDLES) {
            throw new IndexOutOfBoundsException("no such needle");
        }
        return isFront ? needle : Machine.NEEDLES + needle;
    }

    private void requireRowInBuffer() throws IllegalArgumentException {
        if (pattern.faultyPlace() != NONE) {
            throw new IllegalArgumentException("the buffer is no row");
        }
    }

    /** The words of the pattern: the word 0 is the buffer, the words from 1 on are the rows. */
    private static final class Pattern {
        private static final int BUFFER = 0;

        private final char[] signs = new char[(MOST_ROWS + 1) * MOST_SIGNS];
        private final int[] lengths = new int[MOST_ROWS + 1];
        private int added = 0;

        int rowCount() {
            return added;
        }

        int lengthOf(int word) {
            return word < 0 || word > MOST_ROWS ? 0 : lengths[word];
        }

        /** The sign at a place of a word, the sign 0 where there is none. */
        char signAt(int word, int place) {
            boolean isThere = word >= 0 && word <= MOST_ROWS && place >= 0 && place < lengths[word];
            return isThere ? signs[word * MOST_SIGNS + place] : (char) 0;
        }

        void append(char sign) {
            if (lengths[BUFFER] < MOST_SIGNS) {
                signs[lengths[BUFFER]] = sign;
                lengths[BUFFER]++;
            }
        }

        void emptyBuffer() {
            lengths[BUFFER] = 0;
        }

        void addBuffer() {
            if (added < MOST_ROWS) {
                added++;
                keepBufferAs(added);
            }
        }

        void keepBufferAs(int row) {
            if (row < 1 || row > added) {
                return;
            }
            for (int place = 0; place < lengths[BUFFER]; place++) {
                signs[row * MOST_SIGNS + place] = signs[place];
            }
            lengths[row] = lengths[BUFFER];
            emptyBuffer();
        }

        /** The place of the first sign by which the buffer is no row, or NONE if it is one. */
        int faultyPlace() {
            int depth = 0;
            int digitsLeft = 0;
            boolean inSquare = false;
            boolean hasItem = false;
            boolean isOver = false;
            for (int place = 0; place < lengths[BUFFER]; place++) {
                char sign = signAt(BUFFER, place);
                if (isOver || !mayStand(sign, depth, digitsLeft, inSquare, hasItem)) {
                    return place;
                }
                depth += opens(sign) ? 1 : shuts(sign) ? -1 : 0;
                inSquare = sign == '[' || inSquare && sign != ']';
                hasItem = !opens(sign);
                isOver = sign == '/';
                digitsLeft = shuts(sign) || isStitch(sign) ? 2 : isDigit(sign) ? digitsLeft - 1 : 0;
            }
            return depth > 0 || !hasItem ? lengths[BUFFER] : NONE;
        }

        /** Tells whether a sign may follow; two digits are left while a count may begin. */
        private static boolean mayStand(char sign, int depth, int digitsLeft, boolean inSquare, boolean hasItem) {
            if (sign == '(') {
                return depth < MOST_DEEP;
            }
            if (sign == '[') {
                return depth == 0;
            }
            if (sign == ')') {
                return hasItem && depth > (inSquare ? 1 : 0);
            }
            if (sign == ']') {
                return hasItem && inSquare && depth == 1;
            }
            if (sign == '/') {
                return hasItem && depth == 0;
            }
            return isDigit(sign) ? digitsLeft > 0 : !isLetter(sign) || digitsLeft == 2;
        }

        static boolean opens(char sign) {
            return sign == '(' || sign == '[';
        }

        static boolean shuts(char sign) {
            return sign == ')' || sign == ']';
        }

        static boolean isDigit(char sign) {
            return sign >= '0' && sign <= '9';
        }

        static boolean isLetter(char sign) {
            return sign >= 'A' && sign < 'A' + LETTERS;
        }

        static boolean isStitch(char sign) {
            return STITCHES.indexOf(sign) >= 0;
        }

        static boolean isColour(char sign) {
            return COLOURS.indexOf(sign) >= 0;
        }

        static int takenBy(char sign) {
            return TAKE_ONE.indexOf(sign) >= 0 ? 1 : TAKE_TWO.indexOf(sign) >= 0 ? 2 : 0;
        }
    }

    /** Reads a row for one size in the way it is worked, sign by sign, its counts and repeats carried out. */
    private static final class Reading {
        /** Far above what lies between two signs: there each bracket is gone through twice at most. */
        private static final int MOST_STEPS = 100000;

        private final Pattern pattern;
        /** The count or number of the stitch, or of the brackets that open, at a place. */
        private final int[] counts = new int[MOST_SIGNS];
        /** Where the brackets shut that open at a place. */
        private final int[] ends = new int[MOST_SIGNS];
        // The brackets that are open, by their depth
        private final int[] openings = new int[MOST_DEEP];
        private final int[] timesLeft = new int[MOST_DEEP];
        private final int[] doneBefore = new int[MOST_DEEP];
        private final long[] takenInside = new long[MOST_DEEP + 1];
        private int depth = 0;
        private int word = 0;
        private int place = 0;
        private int stitched = 0;

        Reading(Pattern pattern) {
            this.pattern = pattern;
        }

        /** Begins a row, letters meaning some numbers. */
        void begin(int row, int[] numbers) {
            word = row;
            place = 0;
            stitched = 0;
            depth = 0;
            for (int at = 0; at < pattern.lengthOf(word) && at < MOST_SIGNS; at++) {
                char sign = pattern.signAt(word, at);
                if (Pattern.isStitch(sign)) {
                    counts[at] = numberAt(at + 1, 1, numbers);
                } else if (Pattern.opens(sign) && depth < MOST_DEEP) {
                    openings[depth] = at;
                    depth++;
                } else if (Pattern.shuts(sign) && depth > 0) {
                    depth--;
                    ends[openings[depth]] = at;
                    counts[openings[depth]] = numberAt(at + 1, sign == ']' ? 0 : 1, numbers);
                }
            }
            depth = 0;
        }

        /** What is told at a place as a count or number, or what it is if none is told there. */
        private int numberAt(int at, int otherwise, int[] numbers) {
            char sign = pattern.signAt(word, at);
            int letter = sign - 'A';
            if (letter >= 0 && letter < LETTERS && letter < numbers.length) {
                return numbers[letter];
            }
            if (!Pattern.isDigit(sign)) {
                return otherwise;
            }
            char next = pattern.signAt(word, at + 1);
            return Pattern.isDigit(next) ? (sign - '0') * 10 + next - '0' : sign - '0';
        }

        /**
         * The next sign to be worked, the sign 0 if the row is at its end; so many loops are left,
         * and so many were taken or made till now.
         */
        char next(int left, int done) {
            for (int step = 0; step < MOST_STEPS && place < pattern.lengthOf(word); step++) {
                char sign = pattern.signAt(word, place);
                if (Pattern.opens(sign)) {
                    open(sign == '[', left, done);
                } else if (Pattern.shuts(sign)) {
                    shut(done);
                } else if (!Pattern.isStitch(sign)) {
                    place++;
                    if (Pattern.isColour(sign) || sign == '/') {
                        return sign;
                    }
                } else if (stitched < countHere()) {
                    stitched++;
                    return sign;
                } else {
                    stitched = 0;
                    place++;
                }
            }
            return 0;
        }

        private int countHere() {
            return place < 0 || place >= MOST_SIGNS ? 0 : counts[place];
        }

        private int endHere() {
            return place < 0 || place >= MOST_SIGNS ? place : ends[place];
        }

        private void open(boolean isSquare, int left, int done) {
            int times = isSquare ? timesThatFit(left - countHere()) : countHere();
            if (times <= 0 || depth >= MOST_DEEP) {
                place = endHere() + 1;
                return;
            }
            openings[depth] = place;
            timesLeft[depth] = times - 1;
            doneBefore[depth] = done;
            depth++;
            place++;
        }

        /** Goes back to the opening if the items are to be worked again, behind the brackets otherwise. */
        private void shut(int done) {
            place++;
            if (depth <= 0 || depth > MOST_DEEP) {
                return;
            }
            int open = depth - 1;
            // Items that took and made nothing once never will, and the colour is theirs already.
            if (timesLeft[open] > 0 && done > doneBefore[open]) {
                timesLeft[open]--;
                doneBefore[open] = done;
                place = openings[open] + 1;
            } else {
                depth = open;
            }
        }

        /** How often the items of the brackets that open here fit into some loops. */
        private int timesThatFit(int room) {
            int inside = 0;
            takenInside[0] = 0;
            for (int at = place + 1; at < endHere() && at < MOST_SIGNS; at++) {
                char sign = pattern.signAt(word, at);
                if (sign == '(' && inside < MOST_DEEP) {
                    openings[inside] = at;
                    inside++;
                    takenInside[inside] = 0;
                } else if (sign == ')' && inside > 0) {
                    inside--;
                    takenInside[inside] += takenInside[inside + 1] * counts[openings[inside]];
                } else if (Pattern.isStitch(sign)) {
                    takenInside[inside] += (long) Pattern.takenBy(sign) * counts[at];
                }
            }
            return room < 0 || takenInside[0] <= 0 ? 0 : (int) (room / takenInside[0]);
        }
    }

    /** One size: what the letters mean in it, whether it is flat, and how its rows are worked. */
    private static final class Size {
        /** Far above what a row can need: 60 loops taken, 60 made, and the colours between them. */
        private static final int MOST_WORKED = 1000000;

        private final Pattern pattern;
        private final Reading reading;
        private final Fabric fabric = new Fabric();
        private final int[] numbers = new int[LETTERS];
        private final int[] countsBefore = new int[MOST_ROWS + 1];
        private boolean flat = false;
        private boolean closed = false;
        /** How many loops the turn of the row before left. */
        private int waiting = 0;
        // The row that is being worked
        private int taken = 0;
        private int toTake = 0;
        private boolean fromTheEnd = false;
        private char colour = 'a';
        private boolean turns = false;
        private boolean fails = false;

        Size(Pattern pattern) {
            this.pattern = pattern;
            this.reading = new Reading(pattern);
        }

        Fabric fabric() {
            return fabric;
        }

        boolean isFlat() {
            return flat;
        }

        void tellFlat(boolean isFlat) {
            flat = isFlat;
        }

        boolean isClosed() {
            return closed;
        }

        boolean isWrongSide(int row) {
            return flat && row % 2 == 0;
        }

        int numberOf(int letter) {
            return letter < 0 || letter >= LETTERS ? 0 : numbers[letter];
        }

        void tellNumber(int letter, int number) {
            if (letter >= 0 && letter < LETTERS) {
                numbers[letter] = number;
            }
        }

        /** Knits the fabric anew, and tells whether it has other numbers of loops or of rows then. */
        boolean knit() {
            int lastBefore = fabric.lastRow();
            for (int row = 0; row <= MOST_ROWS; row++) {
                countsBefore[row] = fabric.countOf(row);
            }
            fabric.castOn(numbers[0]);
            waiting = 0;
            closed = numbers[0] > 0;
            for (int row = 1; row <= pattern.rowCount() && closed; row++) {
                closed = workRow(row);
            }
            boolean changed = fabric.lastRow() != lastBefore;
            for (int row = 0; row <= MOST_ROWS; row++) {
                changed = changed || countsBefore[row] != fabric.countOf(row);
            }
            return changed;
        }

        /** Works the next row of the fabric, and tells whether it closes; it is not kept otherwise. */
        private boolean workRow(int row) {
            taken = 0;
            toTake = fabric.countOf(row - 1);
            fromTheEnd = isWrongSide(row);
            colour = 'a';
            turns = false;
            fails = toTake == 0;
            fabric.openRow();
            letStay(waiting);
            reading.begin(row, numbers);
            char sign = reading.next(toTake - taken, taken + fabric.opened());
            for (int worked = 0; worked < MOST_WORKED && sign != 0 && !fails; worked++) {
                workSign(sign);
                sign = reading.next(toTake - taken, taken + fabric.opened());
            }
            waiting = turns ? toTake - taken : 0;
            letStay(waiting);
            fails = fails || taken != toTake || turns && !flat;
            if (!fails) {
                fabric.closeRow(fromTheEnd);
            }
            return !fails;
        }

        /** Lets loops stay in the open row as they are. */
        private void letStay(int count) {
            for (int done = 0; done < count && !fails; done++) {
                int place = take();
                fails = !fabric.append('h', fabric.colourAt(fabric.lastRow(), place), place, NONE);
            }
        }

        private void workSign(char sign) {
            if (Pattern.isColour(sign)) {
                colour = sign;
            } else if (sign == '/') {
                turns = true;
            } else if (toTake - taken < Pattern.takenBy(sign)) {
                fails = true;
            } else {
                workStitch(sign);
            }
        }

        private void workStitch(char stitch) {
            int one = Pattern.takenBy(stitch) > 0 ? take() : NONE;
            int two = Pattern.takenBy(stitch) > 1 ? take() : NONE;
            if (stitch == 'o') {
                fabric.bindOff(one, colour);
            } else if (stitch == 'w') {
                boolean isOverPurl = fabric.stitchAt(fabric.lastRow(), one) == 'p';
                fails = !fabric.append(isOverPurl ? 'p' : 'k', colour, one, NONE);
            } else if (stitch == 'f') {
                fails = !fabric.append(stitch, colour, one, NONE) || !fabric.append(stitch, colour, one, NONE);
            } else if (stitch == 'x' || stitch == 'z') {
                fails = !fabric.append(stitch, colour, two, NONE) || !fabric.append(stitch, colour, one, NONE);
            } else {
                fails = !fabric.append(stitch, colour, one, two);
            }
        }

        /** Takes the next loop of the row before, and answers its place. */
        private int take() {
            if (taken >= toTake) {
                return NONE;
            }
            taken++;
            return fromTheEnd ? toTake - taken : taken - 1;
        }
    }

    /** The loops of a size, row by row, as far as the rows close. */
    private static final class Fabric {
        private static final int ROOM = (MOST_ROWS + 1) * MOST_LOOPS;
        private static final char UNBOUND = 0;

        private final int[] counts = new int[MOST_ROWS + 1];
        private final char[] stitches = new char[ROOM];
        private final char[] colours = new char[ROOM];
        private final int[] firstParents = new int[ROOM];
        private final int[] secondParents = new int[ROOM];
        /** The colours of the stitches that bound loops off, or UNBOUND. */
        private final char[] bindings = new char[ROOM];
        private final boolean[] marks = new boolean[ROOM];
        /** Which loops fall, or are undone, in the answer that was sought last. */
        private final boolean[] flags = new boolean[ROOM];
        private int last = 0;
        private int openCount = 0;

        int lastRow() {
            return last;
        }

        int countOf(int row) {
            return row < 0 || row > last || row > MOST_ROWS ? 0 : counts[row];
        }

        boolean has(int row, int place) {
            return row >= 0 && row <= last && row <= MOST_ROWS && place >= 0 && place < counts[row];
        }

        /** Where a loop's data stand; the place is below 60 and the row below 25 wherever this is asked. */
        private static int at(int row, int place) {
            return row * MOST_LOOPS + place;
        }

        char stitchAt(int row, int place) {
            return has(row, place) ? stitches[at(row, place)] : (char) 0;
        }

        char colourAt(int row, int place) {
            return has(row, place) ? colours[at(row, place)] : (char) 0;
        }

        int firstParent(int row, int place) {
            return has(row, place) ? firstParents[at(row, place)] : NONE;
        }

        int secondParent(int row, int place) {
            return has(row, place) ? secondParents[at(row, place)] : NONE;
        }

        boolean isFlagged(int row, int place) {
            return has(row, place) && flags[at(row, place)];
        }

        private void flag(int row, int place, boolean isSo) {
            if (has(row, place)) {
                flags[at(row, place)] = isSo;
            }
        }

        // Making

        void castOn(int count) {
            last = 0;
            openCount = 0;
            counts[0] = Math.max(0, Math.min(count, MOST_LOOPS));
            for (int place = 0; place < counts[0]; place++) {
                putLoop(at(0, place), 'c', 'a', NONE, NONE);
            }
        }

        private void putLoop(int at, char stitch, char colour, int one, int two) {
            if (at >= 0 && at < ROOM) {
                stitches[at] = stitch;
                colours[at] = colour;
                firstParents[at] = one;
                secondParents[at] = two;
            }
        }

        void openRow() {
            openCount = 0;
            for (int place = 0; place < countOf(last); place++) {
                bindings[at(last, place)] = UNBOUND;
            }
        }

        int opened() {
            return openCount;
        }

        /** Makes a loop in the open row, and tells whether there was room. */
        boolean append(char stitch, char colour, int one, int two) {
            if (openCount >= MOST_LOOPS || last >= MOST_ROWS) {
                return false;
            }
            putLoop(at(last + 1, openCount), stitch, colour, one, two);
            openCount++;
            return true;
        }

        void bindOff(int place, char colour) {
            if (has(last, place)) {
                bindings[at(last, place)] = colour;
            }
        }

        /** Makes the open row the last one; its loops are turned round if the first made is the highest. */
        void closeRow(boolean fromTheEnd) {
            if (last >= MOST_ROWS) {
                return;
            }
            last++;
            counts[last] = openCount;
            int low = at(last, 0);
            int high = at(last, openCount - 1);
            while (fromTheEnd && low < high) {
                swapLoops(low, high);
                low++;
                high--;
            }
        }

        private void swapLoops(int one, int other) {
            if (one < 0 || one >= ROOM || other < 0 || other >= ROOM) {
                return;
            }
            char stitch = stitches[one];
            char colour = colours[one];
            int first = firstParents[one];
            int second = secondParents[one];
            putLoop(one, stitches[other], colours[other], firstParents[other], secondParents[other]);
            putLoop(other, stitch, colour, first, second);
        }

        // Asking

        int childCount(int row, int place) {
            int count = 0;
            for (int child = 0; child < countOf(row + 1); child++) {
                count += firstParent(row + 1, child) == place || secondParent(row + 1, child) == place ? 1 : 0;
            }
            return count;
        }

        boolean wasBound(int row, int place) {
            return row < last && has(row, place) && bindings[at(row, place)] != UNBOUND;
        }

        boolean noLoopRuns() {
            boolean holds = true;
            for (int row = 0; row < last; row++) {
                for (int place = 0; place < countOf(row); place++) {
                    holds = holds && (wasBound(row, place) || childCount(row, place) > 0);
                }
            }
            return holds;
        }

        int castOnPlace(int row, int place) {
            int of = place;
            for (int from = row; from > 0 && of != NONE; from--) {
                of = firstParent(from, of);
            }
            return of;
        }

        int flagged() {
            int count = 0;
            for (int row = 0; row <= last; row++) {
                for (int place = 0; place < countOf(row); place++) {
                    count += isFlagged(row, place) ? 1 : 0;
                }
            }
            return count;
        }

        /** Flags the loops that fall if one of the last row is dropped. */
        void drop(int dropped) {
            for (int place = 0; place < countOf(last); place++) {
                flag(last, place, place == dropped);
            }
            for (int row = last - 1; row >= 0; row--) {
                for (int place = 0; place < countOf(row); place++) {
                    flag(row, place, !wasBound(row, place));
                }
                for (int child = 0; child < countOf(row + 1); child++) {
                    if (!isFlagged(row + 1, child)) {
                        flag(row, firstParent(row + 1, child), false);
                        flag(row, secondParent(row + 1, child), false);
                    }
                }
            }
        }

        boolean turnMark(int row, int place) {
            if (!has(row, place)) {
                return false;
            }
            marks[at(row, place)] = !marks[at(row, place)];
            return marks[at(row, place)];
        }

        /** Flags the loops that are undone to mend what is marked. */
        void mend() {
            for (int row = 0; row <= last; row++) {
                for (int place = 0; place < countOf(row); place++) {
                    boolean comesOfUndone = isFlagged(row - 1, firstParent(row, place))
                            || isFlagged(row - 1, secondParent(row, place));
                    flag(row, place, marks[at(row, place)] || comesOfUndone);
                }
                for (int place = 0; place < countOf(row); place++) {
                    if (comesOfNone(row, place) && isUndoneBeside(row, place, -1) && isUndoneBeside(row, place, 1)) {
                        flag(row, place, true);
                    }
                }
            }
        }

        private boolean comesOfNone(int row, int place) {
            return firstParent(row, place) == NONE;
        }

        /** Tells whether the next loop in a direction that comes of some is there and undone. */
        private boolean isUndoneBeside(int row, int place, int step) {
            int beside = place + step;
            for (int passed = 0; passed < MOST_LOOPS && has(row, beside) && comesOfNone(row, beside); passed++) {
                beside += step;
            }
            return isFlagged(row, beside);
        }

        int yarnOfRow(int row, char colour) {
            int sum = 0;
            for (int place = 0; place < countOf(row); place++) {
                boolean counts = colour == '*' || colourAt(row, place) == colour;
                sum += counts ? yarnBy(stitchAt(row, place)) : 0;
            }
            for (int place = 0; place < countOf(row - 1); place++) {
                boolean counts = colour == '*' || bindings[at(row - 1, place)] == colour;
                sum += counts && wasBound(row - 1, place) ? 2 : 0;
            }
            return sum;
        }

        private static int yarnBy(char stitch) {
            if (stitch == 'h') {
                return 0;
            }
            if (stitch == 'c' || stitch == 'y') {
                return 2;
            }
            if (stitch == 't' || stitch == 's') {
                return 4;
            }
            return stitch == 'x' || stitch == 'z' ? 5 : 3;
        }

        /** How many loops the float has that ends at a loop, 0 if none does. */
        int floatBefore(int row, int place) {
            if (stitchAt(row, place) == 'h') {
                return 0;
            }
            int between = 0;
            for (int before = place - 1; before >= 0; before--) {
                boolean stayed = stitchAt(row, before) == 'h';
                if (!stayed && colourAt(row, before) == colourAt(row, place)) {
                    return between;
                }
                between += stayed ? 0 : 1;
            }
            return 0;
        }

        /** How often a stitch that crosses loops was worked up to a row; it makes two loops each time. */
        int crossed(char stitch, int lastOfThem) {
            int count = 0;
            for (int row = 1; row <= lastOfThem && row <= last; row++) {
                for (int place = 0; place < countOf(row); place++) {
                    count += stitchAt(row, place) == stitch ? 1 : 0;
                }
            }
            return count / 2;
        }

        boolean isBraid(int lastOfThem) {
            int strands = countOf(0);
            boolean holds = strands >= 2 && strands <= MOST_STRANDS;
            for (int row = 1; row <= lastOfThem && row <= last; row++) {
                holds = holds && countOf(row) == strands;
                for (int place = 0; place < countOf(row) && holds; place++) {
                    char stitch = stitchAt(row, place);
                    holds = stitch == 'k' || stitch == 'p' || stitch == 'l' || stitch == 'x' || stitch == 'z';
                }
            }
            return holds;
        }
    }

    /**
     * A braid as the one chain of simple braids that stands for all braids like it (Garside's normal
     * form). In a simple braid no two strands cross twice, so it is told by where its strands end;
     * in the chain each simple braid holds every crossing that it can have from the one behind it.
     */
    private static final class Braid {
        /** Four crossings in each row, and as many half turns before them. */
        private static final int MOST_LINKS = 2 * (MOST_STRANDS / 2) * MOST_ROWS;
        private static final int MOST_CROSSED = MOST_STRANDS * (MOST_STRANDS - 1) / 2;
        private static final int ROOM = MOST_LINKS * MOST_STRANDS;

        /** For each simple braid, where the strand ends that starts at a place. */
        private final int[] ends = new int[ROOM];
        /** For each simple braid, where the strand starts that ends at a place. */
        private final int[] starts = new int[ROOM];
        private int strands = 0;
        private int links = 0;

        /**
         * Reads a braid behind so many half turns, of which each z takes one away: it is worked as
         * the half turn less that crossing, and the half turn too many, brought to the beginning,
         * turns all that stands before it round.
         */
        void read(Fabric fabric, int lastOfThem, int halfTurns) {
            strands = Math.min(fabric.countOf(0), MOST_STRANDS);
            links = 0;
            int turnsBehind = fabric.crossed('z', lastOfThem);
            for (int turn = turnsBehind; turn < halfTurns; turn++) {
                append(NONE, true);
            }
            for (int row = 1; row <= lastOfThem && row <= MOST_ROWS; row++) {
                int place = 0;
                while (place + 1 < strands) {
                    char stitch = fabric.stitchAt(row, place);
                    boolean crosses = stitch == 'x' || stitch == 'z';
                    turnsBehind -= stitch == 'z' ? 1 : 0;
                    if (crosses) {
                        append(turnsBehind % 2 == 0 ? place : strands - 2 - place, stitch == 'z');
                    }
                    place += crosses ? 2 : 1;
                }
            }
        }

        boolean isSameAs(Braid other) {
            boolean same = strands == other.strands && links == other.links;
            for (int link = 0; link < links && same; link++) {
                for (int strand = 0; strand < strands && same; strand++) {
                    same = endOf(link, strand) == other.endOf(link, strand);
                }
            }
            return same;
        }

        /** Where a link's data for a place stand, or NONE if there is no such link or place. */
        private static int at(int link, int place) {
            return link < 0 || link >= MOST_LINKS || place < 0 || place >= MOST_STRANDS ? NONE : link * MOST_STRANDS + place;
        }

        private int endOf(int link, int strand) {
            int at = at(link, strand);
            return at == NONE ? NONE : ends[at];
        }

        private int startOf(int link, int place) {
            int at = at(link, place);
            return at == NONE ? NONE : starts[at];
        }

        private void lead(int link, int strand, int end) {
            int from = at(link, strand);
            int to = at(link, end);
            if (from != NONE && to != NONE) {
                ends[from] = end;
                starts[to] = strand;
            }
        }

        /** Appends a crossing of the places crossed and crossed + 1, or the half turn less that one, to the chain. */
        private void append(int crossed, boolean fromHalfTurn) {
            if (links >= MOST_LINKS) {
                return;
            }
            for (int strand = 0; strand < strands; strand++) {
                int end = fromHalfTurn ? strands - 1 - strand : strand;
                boolean swaps = crossed != NONE && (end == crossed || end == crossed + 1);
                lead(links, strand, swaps ? 2 * crossed + 1 - end : end);
            }
            links++;
            boolean moved = true;
            for (int link = links - 2; link >= 0 && moved; link--) {
                moved = gathers(link);
            }
            while (links > 0 && isStraight(links - 1)) {
                links--;
            }
        }

        private boolean isStraight(int link) {
            boolean straight = true;
            for (int strand = 0; strand < strands; strand++) {
                straight = straight && endOf(link, strand) == strand;
            }
            return straight;
        }

        /** Brings all crossings that it can have from the next link into a link, and tells whether there were any. */
        private boolean gathers(int link) {
            int gathered = 0;
            int place = movable(link);
            while (place != NONE && gathered <= MOST_CROSSED) {
                int one = startOf(link, place);
                int two = startOf(link, place + 1);
                lead(link, one, place + 1);
                lead(link, two, place);
                int low = endOf(link + 1, place);
                int high = endOf(link + 1, place + 1);
                lead(link + 1, place, high);
                lead(link + 1, place + 1, low);
                gathered++;
                place = movable(link);
            }
            return gathered > 0;
        }

        /** The lower place of two strands that cross first in the next link, and not yet in this one. */
        private int movable(int link) {
            for (int place = 0; place + 1 < strands; place++) {
                boolean crossNext = endOf(link + 1, place) > endOf(link + 1, place + 1);
                boolean crossHere = startOf(link, place) > startOf(link, place + 1);
                if (crossNext && !crossHere) {
                    return place;
                }
            }
            return NONE;
        }
    }

    /** The two beds: the needles 0 to 15 stand for the front one, 16 to 31 for the back one. */
    private static final class Machine {
        private static final int NEEDLES = 16;
        private static final int BOTH_BEDS = 2 * NEEDLES;
        private static final int MOST_HELD = 3;
        private static final int MOST_RACKING = 3;
        private static final int MOST_APART = 3;

        private final int[] held = new int[BOTH_BEDS * MOST_HELD];
        private final int[] heights = new int[BOTH_BEDS];
        private final int[] places = new int[NEEDLES];
        private int hung = 0;
        private int racked = 0;
        private int done = 0;

        int racking() {
            return racked;
        }

        int actCount() {
            return done;
        }

        int heldBy(int needle) {
            return needle < 0 || needle >= BOTH_BEDS ? 0 : heights[needle];
        }

        int loopOn(int needle, int depth) {
            return depth < 0 || depth >= heldBy(needle) ? NONE : held[needle * MOST_HELD + depth];
        }

        void take(int count) {
            hung = Math.min(count, NEEDLES);
            racked = 0;
            done = 0;
            for (int needle = 0; needle < BOTH_BEDS; needle++) {
                heights[needle] = needle < hung ? 1 : 0;
                held[needle * MOST_HELD] = needle;
            }
        }

        void rackTo(int racking) {
            done += racking == racked ? 0 : 1;
            racked = racking;
        }

        /** The needle opposite, NONE if the other bed has none there. */
        static int opposite(int needle, int racking) {
            boolean isFront = needle < NEEDLES;
            int across = isFront ? needle - racking : needle - NEEDLES + racking;
            return across < 0 || across >= NEEDLES ? NONE : isFront ? NEEDLES + across : across;
        }

        /** Brings all loops of a needle to another one, if that has room for them. */
        void move(int from, int to) {
            if (from == to || heldBy(from) == 0 || to < 0 || to >= BOTH_BEDS || heldBy(from) + heldBy(to) > MOST_HELD) {
                return;
            }
            for (int depth = 0; depth < heights[from]; depth++) {
                held[to * MOST_HELD + heights[to] + depth] = loopOn(from, depth);
            }
            heights[to] += heights[from];
            heights[from] = 0;
            done++;
        }

        /** Tells whether all neighbours are near enough with some racking. */
        boolean staysTogether(int racking) {
            for (int needle = 0; needle < BOTH_BEDS; needle++) {
                for (int depth = 0; depth < heights[needle]; depth++) {
                    int loop = loopOn(needle, depth);
                    if (loop >= 0 && loop < NEEDLES) {
                        places[loop] = needle < NEEDLES ? needle : needle - NEEDLES + racking;
                    }
                }
            }
            boolean together = true;
            for (int loop = 0; loop + 1 < hung; loop++) {
                together = together && Math.abs(places[loop] - places[loop + 1]) <= MOST_APART;
            }
            return together;
        }
    }

    /** The search for the fewest acts by which two loops change their places. */
    private static final class Exchange {
        private static final int MOST_ACTS = 8;
        private static final int RACKINGS = 2 * Machine.MOST_RACKING + 1;
        /** A state is told by the needles of both loops and the racking. */
        private static final int STATES = Machine.BOTH_BEDS * Machine.BOTH_BEDS * RACKINGS;

        private final int[] acts = new int[STATES];
        private final int[] queue = new int[STATES];
        private int queued = 0;

        /** The fewest acts, or NONE if it takes more than 8. */
        int fewestActs(Machine machine, int needle) {
            Arrays.fill(acts, NONE);
            queued = 0;
            int goal = stateOf(needle + 1, needle, 0);
            reach(stateOf(needle, needle + 1, 0), 0);
            for (int next = 0; next < queued && next < STATES; next++) {
                int state = queue[next];
                int count = actsTo(state);
                if (state == goal) {
                    return count;
                }
                if (count < MOST_ACTS) {
                    reachByRacking(state, count + 1);
                    reachByTransfer(machine, needle, state, count + 1);
                }
            }
            return NONE;
        }

        private static int stateOf(int one, int two, int racking) {
            return (one * Machine.BOTH_BEDS + two) * RACKINGS + racking + Machine.MOST_RACKING;
        }

        private static int oneOf(int state) {
            return state / RACKINGS / Machine.BOTH_BEDS;
        }

        private static int twoOf(int state) {
            return state / RACKINGS % Machine.BOTH_BEDS;
        }

        private static int rackingOf(int state) {
            return state % RACKINGS - Machine.MOST_RACKING;
        }

        private int actsTo(int state) {
            return state < 0 || state >= STATES ? NONE : acts[state];
        }

        private void reach(int state, int count) {
            if (state >= 0 && state < STATES && acts[state] == NONE && queued < STATES) {
                acts[state] = count;
                queue[queued] = state;
                queued++;
            }
        }

        private void reachByRacking(int state, int count) {
            for (int racking = -Machine.MOST_RACKING; racking <= Machine.MOST_RACKING; racking++) {
                reach(stateOf(oneOf(state), twoOf(state), racking), count);
            }
        }

        private void reachByTransfer(Machine machine, int needle, int state, int count) {
            int one = oneOf(state);
            int two = twoOf(state);
            int racking = rackingOf(state);
            int oneTo = Machine.opposite(one, racking);
            int twoTo = Machine.opposite(two, racking);
            // Two loops that came onto one needle go together from then on, and never change places.
            if (oneTo != two && isFree(machine, needle, oneTo)) {
                reach(stateOf(oneTo, two, racking), count);
            }
            if (twoTo != one && isFree(machine, needle, twoTo)) {
                reach(stateOf(one, twoTo, racking), count);
            }
        }

        /** Tells whether there is a needle, and no loop on it but the two that change places. */
        private static boolean isFree(Machine machine, int needle, int to) {
            return to != NONE && (machine.heldBy(to) == 0 || to == needle || to == needle + 1);
        }
    }
}
