import java.util.NoSuchElementException;

/**
 * A cabinet of ten slots for numbered figures: partitions, splits of sets, subsets, brackets, branches,
 * codes of labelled trees and compositions, with one text that takes numbers and rows out and in.
 */
public final class PartitionCabinet {

    private static final int SLOTS = 10;
    private static final int KEPT = 12;
    private static final int GREATEST_K = 60;
    private static final long GREATEST_LONG = 9223372036854775807L;
    private static final int TABLE_SIDE = 4;
    private static final int TABLE_SUM = 12;
    private static final String LETTERS = "algdoskubvtc";
    private static final int[] GREATEST_N = {60, 60, 60, 60, 60, 25, 25, 40, 20, 20, 20, 60};
    private static final String PARTITIONS = "algdo";
    private static final String SPLITS = "sk";
    private static final String SUBSETS = "u";
    private static final String BRACKETS = "bv";
    private static final String TREES = "t";
    private static final String MATCHED = "do";

    private final Figure[] slots = new Figure[SLOTS];
    private final Figure[] kept = new Figure[KEPT];
    private final int[] keptSlots = new int[KEPT];
    private final Walk[] walks = new Walk[LETTERS.length()];
    private final Text text = new Text();
    private final Figure spare = new Figure();
    private final Figure otherSpare = new Figure();
    private final Text spareText = new Text();
    private final Text otherSpareText = new Text();
    private final Shapes shapes = new Shapes();
    private final Tree tree = new Tree();
    private final SplitWalk splits = new SplitWalk();
    private final SubsetWalk subsets;
    private final BracketWalk brackets;
    private int keptCount = 0;
    private int keptNext = 0;

    /** Creates a cabinet whose slots hold none, with an empty text. */
    public PartitionCabinet() {
        for (int i = 0; i < SLOTS; i++) {
            slots[i] = new Figure();
        }
        for (int i = 0; i < KEPT; i++) {
            kept[i] = new Figure();
        }
        long[] chosen = Walk.pascal();
        subsets = new SubsetWalk(chosen);
        brackets = new BracketWalk(chosen);
        // one walk for each of LETTERS, in their order
        Walk any = new PartitionWalk('a');
        walks[0] = any;
        walks[1] = new PartitionWalk('l');
        walks[2] = any;
        walks[3] = new PartitionWalk('d');
        walks[4] = new PartitionWalk('o');
        walks[5] = splits;
        walks[6] = splits;
        walks[7] = subsets;
        walks[8] = brackets;
        walks[9] = brackets;
        walks[10] = new CodeWalk();
        walks[11] = new CompositionWalk(chosen);
    }

    // ---- figures

    /** Puts the count of a family into the text and returns how many signs it has then. */
    public int count(char family, int n, int k) throws IllegalArgumentException {
        Walk walk = walkOf(family, n, k);
        walk.writeTotal(text, family, n, k);
        return text.size;
    }

    /** Lets a slot become the first figure of a family and returns how many numbers its row has. */
    public int make(int slot, char family, int n, int k)
            throws IndexOutOfBoundsException, IllegalArgumentException, NoSuchElementException {
        requireSlot(slot);
        Walk walk = walkOf(family, n, k);
        requireAny(walk, family, n, k);
        spare.begin(family, n, k);
        walk.toFirst(spare);
        return replace(slot, spare);
    }

    /** Reads the text for a rank; the slot becomes the figure with it. Returns how many numbers its row has. */
    public int unrank(int slot, char family, int n, int k)
            throws IndexOutOfBoundsException, NumberFormatException, IllegalArgumentException, NoSuchElementException {
        requireSlot(slot);
        if (!text.isNumber()) {
            throw new NumberFormatException("the text is no number");
        }
        Walk walk = walkOf(family, n, k);
        spare.begin(family, n, k);
        if (!walk.takeRank(spare, text)) {
            throw new NoSuchElementException("no figure with this rank");
        }
        text.clear();
        return replace(slot, spare);
    }

    /** Lets a slot become the figure ranked as the remainder of a number by the count. */
    public int draw(int slot, char family, int n, int k, long number)
            throws IndexOutOfBoundsException, IllegalArgumentException, NoSuchElementException {
        requireSlot(slot);
        Walk walk = walkOf(family, n, k);
        requireAny(walk, family, n, k);
        spare.begin(family, n, k);
        walk.toFirst(spare);
        walk.move(spare, number);
        return replace(slot, spare);
    }

    /** Reads the text for a row. Returns how many numbers it has, or -1 less the fault. */
    public int read(int slot, char family, int n, int k) throws IndexOutOfBoundsException, IllegalArgumentException {
        requireSlot(slot);
        Walk walk = walkOf(family, n, k);
        spare.begin(family, n, k);
        int fault = walk.takeRow(spare, text);
        text.clear();
        return fault < 0 ? replace(slot, spare) : -1 - fault;
    }

    /** Lets a slot become what another one, or the same, holds; returns how many numbers its row has. */
    public int copy(int slot, int from) throws IndexOutOfBoundsException, NoSuchElementException {
        requireSlot(slot);
        requireSlot(from);
        return replace(slot, heldAt(from));
    }

    /** Puts the row of a figure into the text and returns how many signs the text has then. */
    public int tell(int slot) throws IndexOutOfBoundsException, NoSuchElementException {
        Figure figure = figureAt(slot);
        text.becomeRow(figure);
        return text.size;
    }

    /** Puts the rank of a figure into the text and returns how many signs the text has then. */
    public int rank(int slot) throws IndexOutOfBoundsException, NoSuchElementException {
        Figure figure = figureAt(slot);
        walkOf(figure).writeRank(text, figure);
        return text.size;
    }

    /** Lets a slot become the figure behind its own; false if it was the last one. */
    public boolean next(int slot) throws IndexOutOfBoundsException, NoSuchElementException {
        Figure figure = figureAt(slot);
        Walk walk = walkOf(figure);
        keep(slot);
        walk.move(figure, 1);
        return !walk.isFirst(figure);
    }

    /** Lets a slot become the figure ahead of its own; false if it was the first one. */
    public boolean previous(int slot) throws IndexOutOfBoundsException, NoSuchElementException {
        Figure figure = figureAt(slot);
        Walk walk = walkOf(figure);
        boolean wasFirst = walk.isFirst(figure);
        keep(slot);
        walk.move(figure, -1);
        return !wasFirst;
    }

    /** Lets a slot become the figure ranked more by a number; returns its first number, -1 if its row is empty. */
    public int skip(int slot, long by) throws IndexOutOfBoundsException, NoSuchElementException {
        Figure figure = figureAt(slot);
        keep(slot);
        walkOf(figure).move(figure, by);
        return figure.size > 0 ? figure.numberAt(0) : -1;
    }

    /** Compares two figures of the same family by their order. */
    public int compare(int a, int b)
            throws IndexOutOfBoundsException, NoSuchElementException, IllegalArgumentException {
        requireSlots(a, b);
        Figure one = heldAt(a);
        Figure other = heldAt(b);
        if (!one.isAlike(other)) {
            throw new IllegalArgumentException("the families are not the same");
        }
        return one.orderTo(other);
    }

    /** Returns the letter of a figure's family. */
    public char family(int slot) throws IndexOutOfBoundsException, NoSuchElementException {
        return figureAt(slot).letter;
    }

    /** Returns how many numbers the row of a figure has. */
    public int length(int slot) throws IndexOutOfBoundsException, NoSuchElementException {
        return figureAt(slot).size;
    }

    /** Returns a number of the row of a figure. */
    public int at(int slot, int place) throws IndexOutOfBoundsException, NoSuchElementException {
        Figure figure = figureAt(slot);
        requirePlace(place >= 0 && place < figure.size);
        return figure.numberAt(place);
    }

    /** Lets the slot of the latest call that is kept hold what it held ahead of it; returns the slot. */
    public int undo() throws NoSuchElementException {
        int latest = keptNext > 0 ? keptNext - 1 : KEPT - 1;
        if (keptCount <= 0 || latest < 0 || latest >= KEPT) {
            throw new NoSuchElementException("no call is kept");
        }
        keptNext = latest;
        keptCount--;
        int slot = keptSlots[latest];
        putInto(slot, kept[latest]);
        return slot;
    }

    // ---- the text

    /** Puts a sign behind the text and returns how many signs it has then. */
    public int type(char sign) throws IllegalArgumentException, IllegalStateException {
        if (sign < ' ' || sign > '~') {
            throw new IllegalArgumentException("no sign for the text");
        }
        if (text.isFull()) {
            throw new IllegalStateException("the text is full");
        }
        text.add(sign);
        return text.size;
    }

    /** Takes the text away and returns how many signs it had. */
    public int erase() {
        int had = text.size;
        text.clear();
        return had;
    }

    /** Returns a sign of the text. */
    public char signAt(int place) throws IllegalArgumentException {
        if (place < 0 || place >= text.size) {
            throw new IllegalArgumentException("no such place in the text");
        }
        return text.sign(place);
    }

    // ---- partitions

    /** Lets a partition become itself, turned; returns its first part then, 0 without parts. */
    public int turn(int slot)
            throws IndexOutOfBoundsException, NoSuchElementException, UnsupportedOperationException {
        Figure figure = figureOf(slot, PARTITIONS);
        shapes.turnOver(figure, spare);
        replace(slot, spare);
        return spare.numberAt(0);
    }

    /** Returns the square of a partition. */
    public int square(int slot)
            throws IndexOutOfBoundsException, NoSuchElementException, UnsupportedOperationException {
        return shapes.squareOf(figureOf(slot, PARTITIONS));
    }

    /** Returns the excess of a partition. */
    public int excess(int slot)
            throws IndexOutOfBoundsException, NoSuchElementException, UnsupportedOperationException {
        Figure figure = figureOf(slot, PARTITIONS);
        return figure.numberAt(0) - figure.size;
    }

    /** Returns the crank of a partition. */
    public int crank(int slot)
            throws IndexOutOfBoundsException, NoSuchElementException, UnsupportedOperationException {
        return shapes.crankOf(figureOf(slot, PARTITIONS));
    }

    /** Lets a partition of 'd' become one of 'o', or the other way round; returns how many parts it has then. */
    public int match(int slot)
            throws IndexOutOfBoundsException, NoSuchElementException, UnsupportedOperationException {
        Figure figure = figureOf(slot, MATCHED);
        shapes.matchTo(figure, spare);
        return replace(slot, spare);
    }

    /** Returns how often a number stands in the row of a figure. */
    public int often(int slot, int number) throws IndexOutOfBoundsException, NoSuchElementException {
        return figureAt(slot).timesOf(number);
    }

    /** Returns a hook of a partition. */
    public int hook(int slot, int row, int column)
            throws IndexOutOfBoundsException, NoSuchElementException, UnsupportedOperationException {
        Figure figure = figureAt(slot);
        boolean isPartition = figure.isOneOf(PARTITIONS);
        requirePlace(!isPartition || shapes.hasPlace(figure, row, column));
        if (!isPartition) {
            throw new UnsupportedOperationException("no partition");
        }
        return shapes.hookOf(figure, row, column);
    }

    /** Puts how many fillings a partition has into the text and returns how many signs the text has then. */
    public int fillings(int slot)
            throws IndexOutOfBoundsException, NoSuchElementException, UnsupportedOperationException {
        Figure figure = figureOf(slot, PARTITIONS);
        shapes.writeFillings(figure, text);
        return text.size;
    }

    /** Tells whether one partition dominates another one. */
    public boolean isOver(int a, int b) throws IndexOutOfBoundsException, NoSuchElementException,
            UnsupportedOperationException, IllegalArgumentException {
        requirePair(a, b, PARTITIONS);
        return shapes.dominates(heldAt(a), heldAt(b));
    }

    // ---- splits

    /** Returns how many blocks a split has. */
    public int blocks(int slot)
            throws IndexOutOfBoundsException, NoSuchElementException, UnsupportedOperationException {
        return splits.blocksOf(figureOf(slot, SPLITS));
    }

    /** Lets a slot become the join of two splits; returns how many blocks it has. */
    public int join(int slot, int a, int b) throws IndexOutOfBoundsException, NoSuchElementException,
            UnsupportedOperationException, IllegalArgumentException {
        requireSlot(slot);
        requirePair(a, b, SPLITS);
        int blocks = splits.joinInto(spare, heldAt(a), heldAt(b));
        replace(slot, spare);
        return blocks;
    }

    /** Lets a slot become the meet of two splits; returns how many blocks it has. */
    public int meet(int slot, int a, int b) throws IndexOutOfBoundsException, NoSuchElementException,
            UnsupportedOperationException, IllegalArgumentException {
        requireSlot(slot);
        requirePair(a, b, SPLITS);
        int blocks = splits.meetInto(spare, heldAt(a), heldAt(b));
        replace(slot, spare);
        return blocks;
    }

    /** Tells whether one split is finer than another one, also if both are the same. */
    public boolean isFiner(int a, int b) throws IndexOutOfBoundsException, NoSuchElementException,
            UnsupportedOperationException, IllegalArgumentException {
        requirePair(a, b, SPLITS);
        return splits.staysTogether(heldAt(a), heldAt(b));
    }

    // ---- subsets

    /** Lets a subset become the next one by the door; returns 100 times what comes plus what goes, or -1. */
    public int door(int slot)
            throws IndexOutOfBoundsException, NoSuchElementException, UnsupportedOperationException {
        Figure figure = figureOf(slot, SUBSETS);
        spare.become(figure);
        subsets.goThroughDoor(spare);
        int comes = spare.firstMissingIn(figure);
        int goes = figure.firstMissingIn(spare);
        replace(slot, spare);
        return comes < 0 || goes < 0 ? -1 : 100 * comes + goes;
    }

    /** Puts how many subsets are ahead of one by the door into the text; returns how many signs it has then. */
    public int doorRank(int slot)
            throws IndexOutOfBoundsException, NoSuchElementException, UnsupportedOperationException {
        Figure figure = figureOf(slot, SUBSETS);
        text.becomeNumber(subsets.doorRankOf(figure));
        return text.size;
    }

    // ---- brackets, branches

    /** Lets brackets become their branches, or branches their brackets; returns how many numbers the row has. */
    public int branch(int slot)
            throws IndexOutOfBoundsException, NoSuchElementException, UnsupportedOperationException {
        Figure figure = figureOf(slot, BRACKETS);
        brackets.exchange(figure, spare);
        return replace(slot, spare);
    }

    /** Returns how many brackets are open at most at once, or how many knots stand in a row from the top down. */
    public int deepest(int slot)
            throws IndexOutOfBoundsException, NoSuchElementException, UnsupportedOperationException {
        Figure figure = figureOf(slot, BRACKETS);
        return figure.letter == 'b' ? brackets.mostOpen(figure) : brackets.mostKnots(figure);
    }

    /** Returns how many triangles of the polygon of brackets or branches have a corner. */
    public int triangles(int slot, int corner) throws IndexOutOfBoundsException, NoSuchElementException,
            UnsupportedOperationException, IllegalArgumentException {
        Figure figure = figureOf(slot, BRACKETS);
        if (corner < 0 || corner > figure.n + 1) {
            throw new IllegalArgumentException("no such corner");
        }
        return brackets.trianglesAt(figure, corner);
    }

    // ---- trees

    /** Returns to how many nodes a node of a tree is joined. */
    public int degree(int slot, int node) throws IndexOutOfBoundsException, NoSuchElementException,
            UnsupportedOperationException, IllegalArgumentException {
        Figure figure = figureOf(slot, TREES);
        requireNode(figure, node);
        return figure.n > 1 ? 1 + figure.timesOf(node) : 0;
    }

    /** Returns how many joints the way from one node of a tree to another one has. */
    public int far(int slot, int one, int other) throws IndexOutOfBoundsException, NoSuchElementException,
            UnsupportedOperationException, IllegalArgumentException {
        Figure figure = figureOf(slot, TREES);
        requireNode(figure, one);
        requireNode(figure, other);
        tree.grow(figure);
        return tree.wayBetween(one, other);
    }

    // ---- tables

    /** Puts how many tables there are with the sums of two figures into the text. */
    public int tables(int a, int b)
            throws IndexOutOfBoundsException, NoSuchElementException, IllegalArgumentException {
        requireSlots(a, b);
        Figure rows = heldAt(a);
        Figure columns = heldAt(b);
        requireSums(rows, columns);
        if (rows.size > TABLE_SIDE || columns.size > TABLE_SIDE || rows.sum() > TABLE_SUM) {
            throw new IllegalArgumentException("the tables are too great");
        }
        text.becomeNumber(shapes.tablesOf(rows, columns));
        return text.size;
    }

    /** Returns a number of the corner table with the sums of two figures. */
    public int corner(int a, int b, int row, int column)
            throws IndexOutOfBoundsException, NoSuchElementException, IllegalArgumentException {
        requireSlots(a, b);
        Figure rows = heldAt(a);
        Figure columns = heldAt(b);
        requirePlace(row >= 0 && row < rows.size && column >= 0 && column < columns.size);
        requireSums(rows, columns);
        return shapes.cornerNumber(rows, columns, row, column);
    }

    /** Tells whether there is a table of 0 and 1 with the sums of two partitions. */
    public boolean isBinary(int a, int b) throws IndexOutOfBoundsException, NoSuchElementException,
            UnsupportedOperationException, IllegalArgumentException {
        requirePair(a, b, PARTITIONS);
        shapes.turnOver(heldAt(a), spare);
        return shapes.dominates(spare, heldAt(b));
    }

    // ---- figures

    /** Returns how many slots hold a figure. */
    public int held() {
        int holding = 0;
        for (int i = 0; i < SLOTS; i++) {
            holding += slots[i].isHeld() ? 1 : 0;
        }
        return holding;
    }

    /** Returns a sum over all slots and the text, a long that goes round. */
    public long checksum() {
        long sum = 7;
        for (int i = 0; i < SLOTS; i++) {
            sum = slots[i].addTo(sum);
        }
        return text.addTo(sum);
    }

    /** Checks the theorem for each figure that is held. */
    public boolean isSound() {
        Figure lastSplit = null;
        for (int i = 0; i < SLOTS; i++) {
            Figure figure = slots[i];
            if (figure.isHeld() && !(isRankSound(figure) && isShapeSound(figure))) {
                return false;
            }
            if (figure.isOneOf(SPLITS)) {
                if (lastSplit != null && lastSplit.n == figure.n && !arePlaced(lastSplit, figure)) {
                    return false;
                }
                lastSplit = figure;
            }
        }
        return true;
    }

    private void requireSlot(int slot) {
        if (slot < 0 || slot >= SLOTS) {
            throw new IndexOutOfBoundsException("no such slot");
        }
    }

    private void requireSlots(int a, int b) {
        requireSlot(a);
        requireSlot(b);
    }

    private void requirePlace(boolean isThere) {
        if (!isThere) {
            throw new NoSuchElementException("no such place");
        }
    }

    private void requireNode(Figure figure, int node) {
        if (node < 0 || node >= figure.n) {
            throw new IllegalArgumentException("no such node");
        }
    }

    private void requireSums(Figure rows, Figure columns) {
        if (rows.sum() != columns.sum()) {
            throw new IllegalArgumentException("the sums are unlike");
        }
    }

    private void requireAny(Walk walk, char letter, int n, int k) {
        if (!walk.hasAny(letter, n, k)) {
            throw new NoSuchElementException("the family has none");
        }
    }

    private void requireOneOf(Figure figure, String letters) {
        if (!figure.isOneOf(letters)) {
            throw new UnsupportedOperationException("not a figure for this call");
        }
    }

    private void requirePair(int a, int b, String letters) {
        requireSlots(a, b);
        Figure one = heldAt(a);
        Figure other = heldAt(b);
        requireOneOf(one, letters);
        requireOneOf(other, letters);
        if (one.n != other.n) {
            throw new IllegalArgumentException("the numbers n are unlike");
        }
    }

    /** The figure of a slot that is there, if the slot holds one. */
    private Figure heldAt(int slot) {
        if (slot < 0 || slot >= SLOTS || !slots[slot].isHeld()) {
            throw new NoSuchElementException("the slot holds none");
        }
        return slots[slot];
    }

    private Figure figureAt(int slot) {
        requireSlot(slot);
        return heldAt(slot);
    }

    private Figure figureOf(int slot, String letters) {
        Figure figure = figureAt(slot);
        requireOneOf(figure, letters);
        return figure;
    }

    private Walk walkOf(char letter, int n, int k) {
        int index = LETTERS.indexOf(letter);
        int least = letter == 't' ? 1 : 0;
        if (index < 0 || index >= GREATEST_N.length || index >= walks.length) {
            throw new IllegalArgumentException("no such family");
        }
        if (n < least || n > GREATEST_N[index] || k < 0 || k > GREATEST_K) {
            throw new IllegalArgumentException("a number is out of range");
        }
        return walks[index];
    }

    private Walk walkOf(Figure figure) {
        return walkOf(figure.letter, figure.n, figure.k);
    }

    private int replace(int slot, Figure figure) {
        keep(slot);
        putInto(slot, figure);
        return figure.size;
    }

    private void putInto(int slot, Figure figure) {
        if (slot >= 0 && slot < SLOTS) {
            slots[slot].become(figure);
        }
    }

    private void keep(int slot) {
        if (slot >= 0 && slot < SLOTS && keptNext >= 0 && keptNext < KEPT) {
            keptSlots[keptNext] = slot;
            kept[keptNext].become(slots[slot]);
            keptNext = (keptNext + 1) % KEPT;
            keptCount = keptCount < KEPT ? keptCount + 1 : KEPT;
        }
    }

    private boolean isShapeSound(Figure figure) {
        if (figure.isOneOf(PARTITIONS) && !(isTurnSound(figure) && areFillingsSound(figure))) {
            return false;
        }
        if (figure.isOneOf(MATCHED) && !isMatchSound(figure)) {
            return false;
        }
        if (figure.isOneOf(BRACKETS) && !(isBranchSound(figure) && areTrianglesSound(figure))) {
            return false;
        }
        return !figure.isOneOf(TREES) || isTreeSound(figure);
    }

    private boolean isRankSound(Figure figure) {
        Walk walk = walkOf(figure);
        walk.writeRank(spareText, figure);
        spare.begin(figure.letter, figure.n, figure.k);
        if (!walk.takeRank(spare, spareText) || spare.orderTo(figure) != 0) {
            return false;
        }
        walk.move(spare, 1);
        if (walk.isFirst(spare)) {
            return true;
        }
        walk.writeRank(otherSpareText, spare);
        spareText.timesPlus(1, 1);
        return spareText.isSame(otherSpareText);
    }

    private boolean isTurnSound(Figure figure) {
        shapes.turnOver(figure, spare);
        shapes.turnOver(spare, otherSpare);
        return otherSpare.orderTo(figure) == 0;
    }

    private boolean areFillingsSound(Figure figure) {
        if (figure.n > 20) {
            return true;
        }
        shapes.writeFillings(figure, spareText);
        long fillings = spareText.numberBelow(GREATEST_LONG);
        long product = 1;
        for (int factor = 2; factor <= figure.n; factor++) {
            product *= factor;
        }
        // the square itself could pass the end of a long
        return fillings > 0 && fillings <= product / fillings;
    }

    private boolean isMatchSound(Figure figure) {
        shapes.matchTo(figure, spare);
        shapes.matchTo(spare, otherSpare);
        return otherSpare.isAlike(figure) && otherSpare.orderTo(figure) == 0;
    }

    private boolean isBranchSound(Figure figure) {
        brackets.exchange(figure, spare);
        brackets.exchange(spare, otherSpare);
        return otherSpare.isAlike(figure) && otherSpare.orderTo(figure) == 0;
    }

    private boolean areTrianglesSound(Figure figure) {
        int all = 0;
        for (int corner = 0; corner <= figure.n + 1; corner++) {
            all += brackets.trianglesAt(figure, corner);
        }
        return all == 3 * figure.n;
    }

    private boolean isTreeSound(Figure figure) {
        tree.grow(figure);
        spare.begin(figure.letter, figure.n, figure.k);
        tree.writeCode(spare);
        return spare.orderTo(figure) == 0;
    }

    private boolean arePlaced(Figure one, Figure other) {
        splits.joinInto(spare, one, other);
        splits.meetInto(otherSpare, one, other);
        return splits.staysTogether(one, spare) && splits.staysTogether(other, spare)
                && splits.staysTogether(otherSpare, one) && splits.staysTogether(otherSpare, other);
    }

    /** A row of numbers with its family, or none: then its letter is 0. */
    private static final class Figure {
        private static final int GREATEST_SIZE = 60;

        private final int[] row = new int[GREATEST_SIZE];
        char letter = 0;
        int n = 0;
        int k = 0;
        int size = 0;

        void begin(char ownLetter, int ownN, int ownK) {
            letter = ownLetter;
            n = ownN;
            k = ownK;
            size = 0;
        }

        void become(Figure other) {
            System.arraycopy(other.row, 0, row, 0, GREATEST_SIZE);
            letter = other.letter;
            n = other.n;
            k = other.k;
            size = other.size;
        }

        void add(int number) {
            if (size >= 0 && size < GREATEST_SIZE) {
                row[size] = number;
                size++;
            }
        }

        /** The number at a place, 0 if there is no such place. */
        int numberAt(int place) {
            return place >= 0 && place < size && place < GREATEST_SIZE ? row[place] : 0;
        }

        void put(int place, int number) {
            if (place >= 0 && place < size && place < GREATEST_SIZE) {
                row[place] = number;
            }
        }

        boolean isHeld() {
            return letter != 0;
        }

        boolean isOneOf(String letters) {
            return isHeld() && letters.indexOf(letter) >= 0;
        }

        boolean isAlike(Figure other) {
            return letter == other.letter && n == other.n && k == other.k;
        }

        int sum() {
            int all = 0;
            for (int i = 0; i < size; i++) {
                all += numberAt(i);
            }
            return all;
        }

        int timesOf(int number) {
            int times = 0;
            for (int i = 0; i < size; i++) {
                times += numberAt(i) == number ? 1 : 0;
            }
            return times;
        }

        /** -1, 0 or 1 by the first place where both differ, a row that ends there being ahead. */
        int orderTo(Figure other) {
            for (int i = 0; i < size && i < other.size; i++) {
                if (numberAt(i) != other.numberAt(i)) {
                    return numberAt(i) < other.numberAt(i) ? -1 : 1;
                }
            }
            return size == other.size ? 0 : size < other.size ? -1 : 1;
        }

        /** The first own number that another one has not, -1 if there is none. */
        int firstMissingIn(Figure other) {
            for (int i = 0; i < size; i++) {
                if (other.timesOf(numberAt(i)) == 0) {
                    return numberAt(i);
                }
            }
            return -1;
        }

        long addTo(long sum) {
            long all = 31 * sum + letter;
            if (isHeld()) {
                all = 31 * all + n;
                all = 31 * all + k;
                for (int i = 0; i < size; i++) {
                    all = 31 * all + numberAt(i);
                }
            }
            return all;
        }
    }

    /** A text of at most 200 signs. */
    private static final class Text {
        private static final int GREATEST_SIZE = 200;

        private final char[] signs = new char[GREATEST_SIZE];
        int size = 0;

        void clear() {
            size = 0;
        }

        boolean isFull() {
            return size >= GREATEST_SIZE;
        }

        void add(char sign) {
            if (size >= 0 && size < GREATEST_SIZE) {
                signs[size] = sign;
                size++;
            }
        }

        /** The sign at a place; a sign that no text has if there is no such place. */
        char sign(int place) {
            return place >= 0 && place < size && place < GREATEST_SIZE ? signs[place] : 0;
        }

        /** The digit at a place, -1 if none is there. */
        int digitAt(int place) {
            char sign = sign(place);
            return sign >= '0' && sign <= '9' ? sign - '0' : -1;
        }

        /** The text becomes the digits of a number not below 0. */
        void becomeNumber(long number) {
            long power = 1;
            for (int i = 0; i < 18 && power <= number / 10; i++) {
                power *= 10;
            }
            clear();
            for (int i = 0; i < 19 && power > 0; i++) {
                add((char) ('0' + number / power % 10));
                power /= 10;
            }
        }

        void becomeRow(Figure figure) {
            clear();
            for (int i = 0; i < figure.size; i++) {
                int number = figure.numberAt(i);
                if (i > 0) {
                    add(',');
                }
                if (number >= 10) {
                    add((char) ('0' + number / 10 % 10));
                }
                add((char) ('0' + number % 10));
            }
        }

        /** The text, a number in digits, becomes itself times a factor plus a number, both not below 0. */
        void timesPlus(int factor, int plus) {
            int carry = plus;
            for (int i = size - 1; i >= 0 && i < GREATEST_SIZE; i--) {
                int all = digitAt(i) * factor + carry;
                signs[i] = (char) ('0' + all % 10);
                carry = all / 10;
            }
            for (int i = 0; i < 10 && carry > 0; i++) {
                addInFront((char) ('0' + carry % 10));
                carry /= 10;
            }
        }

        private void addInFront(char sign) {
            add(sign);
            for (int i = size - 1; i > 0 && i < GREATEST_SIZE; i--) {
                signs[i] = signs[i - 1];
            }
            signs[0] = sign;
        }

        /** Where the digits begin: behind a '+' or '-', if there is one. */
        int digitsStart() {
            return sign(0) == '+' || sign(0) == '-' ? 1 : 0;
        }

        /** The place of the first sign from a place on that is no digit. */
        int digitsEnd(int start) {
            int end = start;
            while (end < size && digitAt(end) >= 0) {
                end++;
            }
            return end;
        }

        boolean isNumber() {
            int start = digitsStart();
            return start < size && digitsEnd(start) == size;
        }

        /** The number that the digits are, but the limit if it is not below this. */
        private long limited(int start, int end, long limit) {
            long number = 0;
            for (int i = start; i < end && number < limit; i++) {
                int digit = digitAt(i);
                number = number > (GREATEST_LONG - digit) / 10 ? limit : number * 10 + digit;
            }
            return number < limit ? number : limit;
        }

        /** The number from 0 on that the text is, -1 if it is below 0 or not below a limit. */
        long numberBelow(long limit) {
            long number = limited(digitsStart(), size, limit);
            boolean isBelowZero = sign(0) == '-' && number > 0;
            return isBelowZero || number >= limit ? -1 : number;
        }

        /** The number of some digits of the text, 1000 for one above this. */
        int smallNumber(int start, int end) {
            return (int) limited(start, end, 1000);
        }

        boolean isSame(Text other) {
            if (size != other.size) {
                return false;
            }
            for (int i = 0; i < size; i++) {
                if (sign(i) != other.sign(i)) {
                    return false;
                }
            }
            return true;
        }

        long addTo(long sum) {
            long all = sum;
            for (int i = 0; i < size; i++) {
                all = 31 * all + sign(i);
            }
            return all;
        }
    }

    /**
     * Goes along the rows of a family, number by number, and tells how many figures go on with each
     * number; by this it counts, ranks and makes figures. A figure that a walk is given has its family.
     */
    private abstract static class Walk {
        private static final int LONGEST = 60;
        private static final int SIDE = 61;

        /** Stands ahead of the first number of the rows of a family. */
        abstract void begin(char letter, int n, int k);

        /** Whether the numbers so far are a whole row. */
        abstract boolean isWhole();

        /** The least number that may come next. */
        abstract int least();

        /** The greatest number that may come next; below the least one if none may. */
        abstract int greatest();

        /** How many figures go on with a number, which is one from the least to the greatest. */
        abstract long waysWith(int number);

        /** Goes on behind a number. */
        abstract void put(int number);

        /** The rows of Pascal's triangle, one behind the other. */
        static long[] pascal() {
            long[] rows = new long[SIDE * SIDE];
            for (int of = 0; of < SIDE; of++) {
                rows[of * SIDE] = 1;
                for (int some = 1; some <= of; some++) {
                    rows[of * SIDE + some] = rows[(of - 1) * SIDE + some - 1] + rows[(of - 1) * SIDE + some];
                }
            }
            return rows;
        }

        static long chosenFrom(long[] pascal, int of, int some) {
            int index = of * SIDE + some;
            boolean isThere = some >= 0 && some <= of && of < SIDE && index >= 0 && index < pascal.length;
            return isThere ? pascal[index] : 0;
        }

        boolean allows(int number) {
            return number >= least() && number <= greatest() && waysWith(number) > 0;
        }

        long total(char letter, int n, int k) {
            begin(letter, n, k);
            if (isWhole()) {
                return 1;
            }
            long all = 0;
            int last = greatest();
            for (int number = least(); number <= last; number++) {
                all += waysWith(number);
            }
            return all;
        }

        boolean hasAny(char letter, int n, int k) {
            return total(letter, n, k) > 0;
        }

        void writeTotal(Text text, char letter, int n, int k) {
            text.becomeNumber(total(letter, n, k));
        }

        void writeRank(Text text, Figure figure) {
            text.becomeNumber(rankOf(figure));
        }

        boolean isFirst(Figure figure) {
            return rankOf(figure) == 0;
        }

        void toFirst(Figure figure) {
            putRanked(figure, 0);
        }

        /** The figure becomes the one ranked more by a number, going round. */
        void move(Figure figure, long by) {
            long all = total(figure.letter, figure.n, figure.k);
            if (all <= 0) {
                return;
            }
            long rank = rankOf(figure);
            long more = Math.floorMod(by, all);
            // a plain sum of both could pass the end of a long
            putRanked(figure, rank >= all - more ? rank - (all - more) : rank + more);
        }

        /** The figure becomes the one with the rank that the text, a number, tells; false if there is none. */
        boolean takeRank(Figure figure, Text text) {
            long rank = text.numberBelow(total(figure.letter, figure.n, figure.k));
            if (rank < 0) {
                return false;
            }
            putRanked(figure, rank);
            return true;
        }

        /** The figure becomes the one with the row that the text tells; returns the fault, -1 without one. */
        int takeRow(Figure figure, Text text) {
            begin(figure.letter, figure.n, figure.k);
            if (text.size == 0) {
                return isWhole() ? -1 : 0;
            }
            int start = 0;
            for (int i = 0; i <= LONGEST; i++) {
                int end = text.digitsEnd(start);
                int number = text.smallNumber(start, end);
                if (end == start || isWhole() || !allows(number)) {
                    return start;
                }
                figure.add(number);
                put(number);
                if (end >= text.size) {
                    return isWhole() ? -1 : end;
                }
                if (isWhole() || text.sign(end) != ',') {
                    return end;
                }
                start = end + 1;
            }
            return start;
        }

        private long rankOf(Figure figure) {
            begin(figure.letter, figure.n, figure.k);
            long ahead = 0;
            for (int place = 0; place < figure.size; place++) {
                int own = figure.numberAt(place);
                for (int number = least(); number < own; number++) {
                    ahead += waysWith(number);
                }
                put(own);
            }
            return ahead;
        }

        private void putRanked(Figure figure, long rank) {
            begin(figure.letter, figure.n, figure.k);
            figure.begin(figure.letter, figure.n, figure.k);
            long left = rank;
            for (int place = 0; place < LONGEST && !isWhole(); place++) {
                int number = least();
                int last = greatest();
                long ways = waysWith(number);
                while (number < last && left >= ways) {
                    left -= ways;
                    number++;
                    ways = waysWith(number);
                }
                figure.add(number);
                put(number);
            }
        }
    }

    /** The partitions: one walk for any and those without great parts, one each for few, unlike and odd parts. */
    private static final class PartitionWalk extends Walk {
        private static final int GREATEST_REST = 60;
        private static final int PLAIN_SIZE = 1830;
        private static final int FEW_SIZE = 73810;

        private final boolean isFew;
        private final boolean isUnlike;
        private final boolean isOdd;
        private final int[] table;
        private int filled = 0;
        private int places = 0;
        private int rest = 0;
        private int most = 0;
        private int left = 0;

        PartitionWalk(char letter) {
            isFew = letter == 'l';
            isUnlike = letter == 'd';
            isOdd = letter == 'o';
            table = new int[letter == 'l' ? FEW_SIZE : PLAIN_SIZE];
        }

        void begin(char letter, int n, int k) {
            rest = n;
            most = letter == 'g' ? k : n;
            left = letter == 'l' ? k : n;
            // the places are filled in their order, each one from lesser sums and parts
            for (int sum = filled + 1; sum <= n && sum <= GREATEST_REST; sum++) {
                int mostParts = isFew ? sum : 1;
                for (int part = 1; part <= sum; part++) {
                    for (int parts = 1; parts <= mostParts; parts++) {
                        fillNext(ways(sum, part - 1, parts) + waysBehind(sum, part, parts));
                    }
                }
                filled = sum;
            }
        }

        private void fillNext(int number) {
            if (places >= 0 && places < table.length) {
                table[places] = number;
                places++;
            }
        }

        boolean isWhole() {
            return rest == 0;
        }

        int least() {
            return 1;
        }

        int greatest() {
            if (isFew && left <= 0) {
                return 0;
            }
            return most < rest ? most : rest;
        }

        long waysWith(int part) {
            return waysBehind(rest, part, left);
        }

        void put(int part) {
            rest -= part;
            most = isUnlike ? part - 1 : part;
            left--;
        }

        /** How many partitions a sum has whose first part is just one, and, for few parts, of so many at most. */
        private int waysBehind(int sum, int part, int parts) {
            return isOdd && part % 2 == 0 ? 0 : ways(sum - part, isUnlike ? part - 1 : part, parts - 1);
        }

        /** How many partitions a sum has without a part above one, and, for few parts, of so many at most. */
        private int ways(int sum, int part, int parts) {
            if (sum == 0) {
                return 1;
            }
            if (sum < 0 || part <= 0 || isFew && parts <= 0) {
                return 0;
            }
            int index = (part < sum ? part : sum) - 1;
            if (isFew) {
                // ahead of a sum stand the squares of all lesser ones
                index = (sum - 1) * sum * (2 * sum - 1) / 6 + index * sum + (parts < sum ? parts : sum) - 1;
            } else {
                index += sum * (sum - 1) / 2;
            }
            return index >= 0 && index < table.length ? table[index] : 0;
        }
    }

    /** The splits, with their joins and meets. */
    private static final class SplitWalk extends Walk {
        private static final int SIDE = 26;
        private static final int ANY = -1;
        private static final int NOT_FILLED = -2;

        private final long[] ends = new long[SIDE * SIDE];
        private final int[] marks = new int[SIDE];
        private int filledFor = NOT_FILLED;
        private int wanted = ANY;
        private int rest = 0;
        private int blocks = 0;

        void begin(char letter, int n, int k) {
            wanted = letter == 'k' ? k : ANY;
            rest = n;
            blocks = 0;
            if (filledFor != wanted) {
                fill();
                filledFor = wanted;
            }
        }

        boolean isWhole() {
            return rest == 0 && (wanted == ANY || blocks == wanted);
        }

        int least() {
            return 0;
        }

        int greatest() {
            return rest > 0 ? blocks : -1;
        }

        long waysWith(int block) {
            return endsOf(rest - 1, block < blocks ? blocks : blocks + 1);
        }

        void put(int block) {
            rest--;
            blocks = block < blocks ? blocks : blocks + 1;
        }

        private void fill() {
            for (int more = 0; more < SIDE; more++) {
                for (int used = 0; used < SIDE - more; used++) {
                    long ways = wanted == ANY || wanted == used ? 1 : 0;
                    if (more > 0) {
                        ways = used * endsOf(more - 1, used) + endsOf(more - 1, used + 1);
                    }
                    ends[more * SIDE + used] = ways;
                }
            }
        }

        /** In how many ways so many more things go on behind so many blocks. */
        private long endsOf(int more, int used) {
            return more >= 0 && used >= 0 && more < SIDE && used < SIDE ? ends[more * SIDE + used] : 0;
        }

        int blocksOf(Figure split) {
            int highest = -1;
            for (int i = 0; i < split.size; i++) {
                highest = Math.max(highest, split.numberAt(i));
            }
            return highest + 1;
        }

        int joinInto(Figure target, Figure one, Figure other) {
            for (int i = 0; i < one.size && i < SIDE; i++) {
                marks[i] = one.numberAt(i);
            }
            for (int i = 0; i < one.size && i < SIDE; i++) {
                for (int j = 0; j < i; j++) {
                    if (other.numberAt(i) == other.numberAt(j)) {
                        remark(one.size, marks[i], marks[j]);
                    }
                }
            }
            return becomeMarked(target, one);
        }

        /** Gives the things with a mark another one. */
        private void remark(int size, int from, int to) {
            for (int i = 0; i < size && i < SIDE; i++) {
                if (marks[i] == from) {
                    marks[i] = to;
                }
            }
        }

        int meetInto(Figure target, Figure one, Figure other) {
            for (int i = 0; i < one.size && i < SIDE; i++) {
                marks[i] = one.numberAt(i) * SIDE + other.numberAt(i);
            }
            return becomeMarked(target, one);
        }

        /** The target becomes the split whose blocks have the same marks; returns how many these are. */
        private int becomeMarked(Figure target, Figure one) {
            int found = 0;
            target.begin('s', one.n, one.k);
            for (int i = 0; i < one.size && i < SIDE; i++) {
                int block = found;
                for (int j = 0; j < i && block == found; j++) {
                    block = marks[j] == marks[i] ? target.numberAt(j) : found;
                }
                found += block == found ? 1 : 0;
                target.add(block);
            }
            return found;
        }

        /** Whether things of one block of one split are always in one block of another one. */
        boolean staysTogether(Figure one, Figure other) {
            for (int i = 0; i < one.size; i++) {
                for (int j = 0; j < i; j++) {
                    if (one.numberAt(i) == one.numberAt(j) && other.numberAt(i) != other.numberAt(j)) {
                        return false;
                    }
                }
            }
            return true;
        }
    }

    /** The subsets, in their order and by the door. */
    private static final class SubsetWalk extends Walk {
        private final long[] chosen;
        private int things = 0;
        private int low = 0;
        private int left = 0;

        SubsetWalk(long[] pascal) {
            chosen = pascal;
        }

        void begin(char letter, int n, int k) {
            things = n;
            low = 0;
            left = k;
        }

        boolean isWhole() {
            return left == 0;
        }

        int least() {
            return low;
        }

        int greatest() {
            return things - left;
        }

        long waysWith(int thing) {
            return chosenFrom(chosen, things - 1 - thing, left - 1);
        }

        void put(int thing) {
            low = thing + 1;
            left--;
        }

        long doorRankOf(Figure subset) {
            long ahead = 0;
            for (int i = 0; i < subset.size; i++) {
                ahead = chosenFrom(chosen, subset.numberAt(i) + 1, i + 1) - 1 - ahead;
            }
            return ahead;
        }

        void goThroughDoor(Figure subset) {
            long all = chosenFrom(chosen, subset.n, subset.size);
            long behind = doorRankOf(subset) + 1;
            long ahead = behind < all ? behind : 0;
            for (int i = subset.size - 1; i >= 0; i--) {
                int thing = i;
                while (thing < subset.n && chosenFrom(chosen, thing + 1, i + 1) <= ahead) {
                    thing++;
                }
                subset.put(i, thing);
                ahead = chosenFrom(chosen, thing + 1, i + 1) - 1 - ahead;
            }
        }
    }

    /** The compositions. */
    private static final class CompositionWalk extends Walk {
        private final long[] chosen;
        private int rest = 0;
        private int left = 0;

        CompositionWalk(long[] pascal) {
            chosen = pascal;
        }

        void begin(char letter, int n, int k) {
            rest = n;
            left = k;
        }

        boolean isWhole() {
            return rest == 0 && left == 0;
        }

        int least() {
            return 1;
        }

        int greatest() {
            return left > 0 ? rest - left + 1 : 0;
        }

        long waysWith(int part) {
            int more = rest - part;
            if (left == 1) {
                return more == 0 ? 1 : 0;
            }
            return chosenFrom(chosen, more - 1, left - 2);
        }

        void put(int part) {
            rest -= part;
            left--;
        }
    }

    /** The brackets and the branches, with what is told of both. */
    private static final class BracketWalk extends Walk {
        private static final int DEEPEST = 22;

        private final long[] chosen;
        private final int[] stack = new int[DEEPEST];
        private boolean isBranches = false;
        private int risesLeft = 0;
        private int fallsLeft = 0;

        BracketWalk(long[] pascal) {
            chosen = pascal;
        }

        void begin(char letter, int n, int k) {
            isBranches = letter == 'v';
            risesLeft = n;
            fallsLeft = isBranches ? n + 1 : n;
        }

        boolean isWhole() {
            return risesLeft == 0 && fallsLeft == 0;
        }

        int least() {
            return 0;
        }

        int greatest() {
            return isWhole() ? -1 : 1;
        }

        long waysWith(int sign) {
            return isRise(sign) ? waysToEnd(risesLeft - 1, fallsLeft) : waysToEnd(risesLeft, fallsLeft - 1);
        }

        void put(int sign) {
            if (isRise(sign)) {
                risesLeft--;
            } else {
                fallsLeft--;
            }
        }

        /** Whether a sign is an opening bracket or a knot. */
        private boolean isRise(int sign) {
            return isBranches ? sign == 1 : sign == 0;
        }

        private long waysToEnd(int rises, int falls) {
            if (isBranches && falls == 0) {
                return rises == 0 ? 1 : 0;
            }
            // the last sign of branches stands behind what would be brackets
            int closing = isBranches ? falls - 1 : falls;
            if (rises < 0 || closing < rises) {
                return 0;
            }
            return chosenFrom(chosen, rises + closing, rises) - chosenFrom(chosen, rises + closing, rises - 1);
        }

        void exchange(Figure from, Figure to) {
            boolean fromBrackets = from.letter == 'b';
            to.begin(fromBrackets ? 'v' : 'b', from.n, from.k);
            for (int i = 0; i < 2 * from.n; i++) {
                to.add(1 - from.numberAt(i));
            }
            if (fromBrackets) {
                to.add(0);
            }
        }

        int mostOpen(Figure row) {
            int open = 0;
            int most = 0;
            for (int i = 0; i < row.size; i++) {
                open += row.numberAt(i) == 0 ? 1 : -1;
                most = Math.max(most, open);
            }
            return most;
        }

        /** How many knots stand in a row from the top down: each place to come has its depth on the stack. */
        int mostKnots(Figure row) {
            int most = 0;
            int depth = 0;
            int waiting = 0;
            for (int i = 0; i < row.size; i++) {
                if (row.numberAt(i) == 1) {
                    depth++;
                    most = Math.max(most, depth);
                    if (waiting < DEEPEST) {
                        stack[waiting] = depth;
                        waiting++;
                    }
                } else if (waiting > 0) {
                    waiting--;
                    depth = stack[waiting];
                }
            }
            return most;
        }

        /**
         * A knot whose bracket opens behind some closed ones has its triangle from the corner with this
         * number; its middle is the corner numbered as its own closing bracket, from 1; the far corner of the
         * knots side by side inside a bracket is the middle of that one, and the last corner outside of all.
         */
        int trianglesAt(Figure figure, int corner) {
            int opening = figure.letter == 'b' ? 0 : 1;
            int found = 0;
            int closed = 0;
            int depth = 0;
            stack[0] = 0;
            for (int i = 0; i < 2 * figure.n; i++) {
                if (figure.numberAt(i) == opening) {
                    found += closed == corner ? 1 : 0;
                    countAt(depth);
                    depth++;
                    emptyAt(depth);
                } else {
                    closed++;
                    found += closed == corner ? 1 + knotsAt(depth) : 0;
                    depth--;
                }
            }
            return corner == figure.n + 1 ? found + knotsAt(0) : found;
        }

        private void countAt(int depth) {
            if (depth >= 0 && depth < DEEPEST) {
                stack[depth]++;
            }
        }

        private void emptyAt(int depth) {
            if (depth >= 0 && depth < DEEPEST) {
                stack[depth] = 0;
            }
        }

        private int knotsAt(int depth) {
            return depth >= 0 && depth < DEEPEST ? stack[depth] : 0;
        }
    }

    /** The codes of trees: the row, read as digits to the base n, is the rank itself, which may pass a long. */
    private static final class CodeWalk extends Walk {
        private int nodes = 0;
        private int left = 0;

        void begin(char letter, int n, int k) {
            nodes = n;
            left = n > 2 ? n - 2 : 0;
        }

        boolean isWhole() {
            return left == 0;
        }

        int least() {
            return 0;
        }

        int greatest() {
            return left > 0 ? nodes - 1 : -1;
        }

        long waysWith(int node) {
            // only asked for whether there are any: how many there are may pass a long
            return 1;
        }

        void put(int node) {
            left--;
        }

        boolean hasAny(char letter, int n, int k) {
            return true;
        }

        void writeTotal(Text text, char letter, int n, int k) {
            text.becomeNumber(1);
            for (int i = 2; i < n; i++) {
                text.timesPlus(n, 0);
            }
        }

        void writeRank(Text text, Figure figure) {
            text.becomeNumber(0);
            for (int i = 0; i < figure.size; i++) {
                text.timesPlus(figure.n, figure.numberAt(i));
            }
        }

        boolean isFirst(Figure figure) {
            return figure.timesOf(0) == figure.size;
        }

        void toFirst(Figure figure) {
            begin(figure.letter, figure.n, figure.k);
            figure.begin(figure.letter, figure.n, figure.k);
            for (int i = 0; i < left; i++) {
                figure.add(0);
            }
        }

        void move(Figure figure, long by) {
            long more = by;
            int carry = 0;
            int base = Math.max(1, figure.n);
            for (int i = figure.size - 1; i >= 0; i--) {
                int all = figure.numberAt(i) + (int) Math.floorMod(more, (long) base) + carry;
                figure.put(i, all % base);
                carry = all / base;
                more = Math.floorDiv(more, (long) base);
            }
        }

        boolean takeRank(Figure figure, Text text) {
            toFirst(figure);
            for (int i = text.digitsStart(); i < text.size; i++) {
                if (!timesTenPlus(figure, text.digitAt(i))) {
                    return false;
                }
            }
            return text.sign(0) != '-' || isFirst(figure);
        }

        /** The row becomes the one with ten times its rank plus a digit; false if there is none. */
        private boolean timesTenPlus(Figure figure, int digit) {
            int carry = digit;
            int base = Math.max(1, figure.n);
            for (int i = figure.size - 1; i >= 0; i--) {
                int all = figure.numberAt(i) * 10 + carry;
                figure.put(i, all % base);
                carry = all / base;
            }
            return carry == 0;
        }
    }

    /** A tree grown from its code: each node but the last one, the root, has its parent. */
    private static final class Tree {
        private static final int GREATEST_N = 20;

        private final int[] parents = new int[GREATEST_N];
        private final int[] joints = new int[GREATEST_N];
        private int nodes = 0;

        void grow(Figure code) {
            nodes = code.n < GREATEST_N ? code.n : GREATEST_N;
            for (int i = 0; i < nodes; i++) {
                joints[i] = 1 + code.timesOf(i);
                parents[i] = nodes - 1;
            }
            for (int i = 0; i < code.size; i++) {
                int leaf = leastLeaf();
                if (leaf >= 0 && leaf < nodes) {
                    parents[leaf] = code.numberAt(i);
                }
                prune(leaf);
            }
        }

        /** Puts the code that the tree has behind a row. */
        void writeCode(Figure code) {
            for (int i = 0; i < GREATEST_N; i++) {
                joints[i] = 0;
            }
            for (int i = 0; i < nodes - 1; i++) {
                changeJoints(i, 1);
                changeJoints(parentOf(i), 1);
            }
            for (int i = 2; i < nodes; i++) {
                int leaf = leastLeaf();
                code.add(parentOf(leaf));
                prune(leaf);
            }
        }

        int wayBetween(int one, int other) {
            int deeper = depthOf(one) < depthOf(other) ? other : one;
            int higher = deeper == one ? other : one;
            int steps = depthOf(deeper) - depthOf(higher);
            for (int i = 0; i < steps; i++) {
                deeper = parentOf(deeper);
            }
            for (int i = 0; i < nodes && deeper != higher; i++) {
                deeper = parentOf(deeper);
                higher = parentOf(higher);
                steps += 2;
            }
            return steps;
        }

        private int depthOf(int node) {
            int depth = 0;
            int above = node;
            for (int i = 0; i < nodes && above != nodes - 1; i++) {
                above = parentOf(above);
                depth++;
            }
            return depth;
        }

        private int parentOf(int node) {
            return node >= 0 && node < nodes && node < GREATEST_N ? parents[node] : nodes - 1;
        }

        /** The least node with one joint. */
        private int leastLeaf() {
            int leaf = 0;
            while (leaf < nodes && leaf < GREATEST_N && joints[leaf] != 1) {
                leaf++;
            }
            return leaf;
        }

        /** Takes a leaf and its joint away. */
        private void prune(int leaf) {
            changeJoints(leaf, -1);
            changeJoints(parentOf(leaf), -1);
        }

        private void changeJoints(int node, int by) {
            if (node >= 0 && node < nodes && node < GREATEST_N) {
                joints[node] += by;
            }
        }
    }

    /** What is told of the shapes of partitions, and of tables with told sums. */
    private static final class Shapes {
        private static final int GREATEST_PART = 60;
        private static final int BINARY_DIGITS = 6;
        private static final int STATES = 256;

        private final int[] tally = new int[GREATEST_PART + 1];
        private final int[] ways = new int[STATES];

        void turnOver(Figure from, Figure to) {
            to.begin(turnedLetter(from.letter), from.n, from.k);
            for (int column = 0; column < from.numberAt(0); column++) {
                to.add(rowsReaching(from, 0, column));
            }
        }

        private char turnedLetter(char letter) {
            return letter == 'l' ? 'g' : letter == 'g' ? 'l' : 'a';
        }

        /** How many rows from one on reach a column. */
        private int rowsReaching(Figure figure, int row, int column) {
            int rows = 0;
            for (int i = row; i < figure.size; i++) {
                rows += figure.numberAt(i) > column ? 1 : 0;
            }
            return rows;
        }

        int squareOf(Figure figure) {
            int side = 0;
            while (side < figure.size && figure.numberAt(side) > side) {
                side++;
            }
            return side;
        }

        int crankOf(Figure figure) {
            int ones = figure.timesOf(1);
            return ones == 0 ? figure.numberAt(0) : rowsReaching(figure, 0, ones) - ones;
        }

        void matchTo(Figure from, Figure to) {
            clearTally();
            if (from.letter == 'd') {
                tallyHalved(from);
                to.begin('o', from.n, from.k);
            } else {
                tallyPutTogether(from);
                to.begin('d', from.n, from.k);
            }
            for (int part = GREATEST_PART; part > 0; part--) {
                for (int i = 0; i < tallied(part); i++) {
                    to.add(part);
                }
            }
        }

        private void clearTally() {
            for (int i = 0; i <= GREATEST_PART; i++) {
                tally[i] = 0;
            }
        }

        private void tallyMore(int number, int by) {
            if (number >= 0 && number <= GREATEST_PART) {
                tally[number] += by;
            }
        }

        private int tallied(int number) {
            return number >= 0 && number <= GREATEST_PART ? tally[number] : 0;
        }

        private void tallyHalved(Figure unlike) {
            for (int i = 0; i < unlike.size; i++) {
                int part = unlike.numberAt(i);
                int times = 1;
                for (int halved = 0; halved < BINARY_DIGITS && part % 2 == 0; halved++) {
                    part /= 2;
                    times *= 2;
                }
                tallyMore(part, times);
            }
        }

        private void tallyPutTogether(Figure odd) {
            for (int part = 1; part <= GREATEST_PART; part += 2) {
                int times = odd.timesOf(part);
                for (int digit = 0; digit < BINARY_DIGITS; digit++) {
                    tallyMore(part << digit, times >> digit & 1);
                }
            }
        }

        boolean hasPlace(Figure figure, int row, int column) {
            return row >= 0 && row < figure.size && column >= 0 && column < figure.numberAt(row);
        }

        int hookOf(Figure figure, int row, int column) {
            return figure.numberAt(row) - column + rowsReaching(figure, row + 1, column);
        }

        /** Puts the product to n divided by all hooks into a text, through the powers of its primes. */
        void writeFillings(Figure figure, Text text) {
            clearTally();
            for (int factor = 2; factor <= figure.n; factor++) {
                tallyMore(factor, 1);
            }
            for (int row = 0; row < figure.size; row++) {
                for (int column = 0; column < figure.numberAt(row); column++) {
                    tallyMore(hookOf(figure, row, column), -1);
                }
            }
            text.becomeNumber(1);
            for (int factor = GREATEST_PART; factor > 1; factor--) {
                int divisor = leastDivisor(factor);
                int power = tallied(factor);
                if (divisor > 1 && divisor < factor) {
                    tallyMore(divisor, power);
                    tallyMore(factor / divisor, power);
                    tallyMore(factor, -power);
                }
            }
            for (int prime = 2; prime <= GREATEST_PART; prime++) {
                for (int i = 0; i < tallied(prime); i++) {
                    text.timesPlus(prime, 0);
                }
            }
        }

        private int leastDivisor(int factor) {
            int divisor = 2;
            while (divisor > 1 && divisor < factor && factor % divisor != 0) {
                divisor++;
            }
            return divisor;
        }

        boolean dominates(Figure one, Figure other) {
            int more = 0;
            for (int i = 0; i < one.size || i < other.size; i++) {
                more += one.numberAt(i) - other.numberAt(i);
                if (more < 0) {
                    return false;
                }
            }
            return true;
        }

        /**
         * How many tables have the sums of two figures of at most four numbers and twelve together. A state
         * is what is left of the sums of the columns, each one a digit to a base of its sum and 1.
         */
        int tablesOf(Figure rows, Figure columns) {
            int states = 1;
            for (int i = 0; i < columns.size; i++) {
                states *= columns.numberAt(i) + 1;
            }
            if (states < 1 || states > STATES) {
                return 0;
            }
            for (int i = 0; i < states; i++) {
                ways[i] = 0;
            }
            ways[states - 1] = 1;
            int left = columns.sum();
            for (int row = 0; row < rows.size; row++) {
                left -= rows.numberAt(row);
                takeFromColumns(columns, states);
                keepStatesOf(columns, states, left);
            }
            return ways[0];
        }

        /** Lets each state be reached from all that have no less in any column. */
        private void takeFromColumns(Figure columns, int states) {
            int stride = 1;
            for (int i = 0; i < columns.size; i++) {
                int last = Math.min(states, STATES) - 1;
                for (int state = last - stride; state >= 0; state--) {
                    int fuller = state + stride;
                    if (fuller >= 0 && fuller <= last && leftOf(columns, i, state) < columns.numberAt(i)) {
                        ways[state] += ways[fuller];
                    }
                }
                stride *= columns.numberAt(i) + 1;
            }
        }

        private void keepStatesOf(Figure columns, int states, int left) {
            for (int state = 0; state < states && state < STATES; state++) {
                int sum = 0;
                for (int i = 0; i < columns.size; i++) {
                    sum += leftOf(columns, i, state);
                }
                ways[state] = sum == left ? ways[state] : 0;
            }
        }

        /** What is left of the sum of a column in a state. */
        private int leftOf(Figure columns, int column, int state) {
            int digits = state;
            for (int i = 0; i < column; i++) {
                digits /= Math.max(0, columns.numberAt(i)) + 1;
            }
            return digits % (Math.max(0, columns.numberAt(column)) + 1);
        }

        /** By both sums so far a number of the corner table is what its row and its column share. */
        int cornerNumber(Figure rows, Figure columns, int row, int column) {
            int rowStart = sumAhead(rows, row);
            int columnStart = sumAhead(columns, column);
            int start = Math.max(rowStart, columnStart);
            int end = Math.min(rowStart + rows.numberAt(row), columnStart + columns.numberAt(column));
            return Math.max(0, end - start);
        }

        private int sumAhead(Figure figure, int place) {
            int sum = 0;
            for (int i = 0; i < place; i++) {
                sum += figure.numberAt(i);
            }
            return sum;
        }
    }
}
