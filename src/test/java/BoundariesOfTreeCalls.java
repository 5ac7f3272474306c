import java.io.IOException;

/** The boundary cases of promises 36 to 43: brackets and branches, trees, and tables. */
public final class BoundariesOfTreeCalls extends BoundaryBench {

    public static void main(String[] args) throws IOException {
        readDocument();
        BracketCalls.all();
        TreeCalls.all();
        TableCalls.all();
        finish("BoundariesOfTreeCalls");
    }

    private static final class BracketCalls {
        private static final String NONE_OF_THESE = "Throws `UnsupportedOperationException` if it is none of these";

        static void all() {
            section("Promise 36");
            plain("the slot");
            exchanges();
            lengths();
            noSuchSlot('b', (c, slot) -> c.branch(slot));
            holdsNone('v', (c, slot) -> c.branch(slot));
            unfit(NONE_OF_THESE, "bv", (c, slot) -> c.branch(slot));
            section("Promise 37");
            plain("the slot", "Returns how many.");
            deepest();
            noSuchSlot('v', (c, slot) -> c.deepest(slot));
            holdsNone('b', (c, slot) -> c.deepest(slot));
            unfit(NONE_OF_THESE, "bv", (c, slot) -> c.deepest(slot));
            section("Promise 38");
            plain("the slot", "the corner", "Returns how many triangles of the polygon of brackets or branches have a corner.");
            triangles();
            noSuchSlot('b', (c, slot) -> c.triangles(slot, 0));
            holdsNone('b', (c, slot) -> c.triangles(slot, 0));
            unfit(NONE_OF_THESE, "bv", (c, slot) -> c.triangles(slot, 0));
            noSuchCorner();
        }

        private static void exchanges() {
            sentence("Lets brackets become the branches that they are of, or branches their brackets, with the same n and k.");
            for (int[] family : new int[][] {{0, 0}, {0, 60}, {1, 1}, {20, 60}}) {
                for (int number = -1; number <= 0; number++) {
                    int drawn = number;
                    fresh();
                    does(c -> c.draw(0, 'b', family[0], family[1], drawn));
                    make(1, 'v', family[0], family[1]);
                    make(2, 'b', family[0], family[1]);
                    String row = rowOf(twin(), 0);
                    does(c -> c.branch(0));
                    letterIs(0, 'v');
                    takes(c -> c.compare(0, 1));
                    String due = row.replace('0', '2').replace('1', '0').replace('2', '1');
                    rowIs(0, due.isEmpty() ? "0" : due + ",0");
                    does(c -> c.branch(0));
                    letterIs(0, 'b');
                    takes(c -> c.compare(0, 2));
                    rowIs(0, row);
                }
            }
        }

        private static void lengths() {
            sentence("Returns how many numbers the row has then.");
            for (int n : new int[] {0, 1, 2, 19, 20}) {
                fresh();
                make(9, 'b', n, 0);
                answers(2 * n + 1, c -> c.branch(9));
                check(x.length(9), 2 * n + 1);
                answers(2 * n, c -> c.branch(9));
                check(x.length(9), 2 * n);
            }
        }

        private static void deepest() {
            sentence("Returns how many brackets are open at most at once, or how many knots stand in a row from the top"
                    + " down at most.");
            for (Object[] each : new Object[][] {{0, "", 0, 0}, {1, "0,1", 1, 1}, {2, "0,1,0,1", 1, 2}, {2, "0,0,1,1", 2, 2},
                {3, "0,1,0,1,0,1", 1, 3}, {3, "0,0,0,1,1,1", 3, 3}, {3, "0,0,1,1,0,1", 2, 2}, {3, "0,1,0,0,1,1", 2, 3},
                {4, "0,1,0,1,0,0,1,1", 2, 4}, {4, "0,0,1,1,0,0,1,1", 2, 3}, {4, "0,0,1,0,1,1,0,1", 2, 3},
                {20, "0" + ",0".repeat(19) + ",1".repeat(20), 20, 20}, {20, "0,1" + ",0,1".repeat(19), 1, 20}}) {
                fresh();
                hold(9, 'b', (Integer) each[0], 0, (String) each[1]);
                answers(each[2], c -> c.deepest(9));
                does(c -> c.branch(9));
                answers(each[3], c -> c.deepest(9));
            }
        }

        private static void triangles() {
            sentence("Returns how many.");
            make(0, 'b', 0, 0);
            make(1, 'v', 1, 0);
            make(2, 'b', 20, 0);
            make(3, 'v', 20, 0);
            for (int[] each : new int[][] {{0, 0, 0}, {0, 1, 0}, {1, 0, 1}, {1, 1, 1}, {1, 2, 1}, {2, 0, 20}, {2, 1, 1},
                {2, 2, 2}, {2, 20, 2}, {2, 21, 1}, {3, 0, 1}, {3, 1, 2}, {3, 19, 2}, {3, 20, 1}, {3, 21, 20}}) {
                answers(each[2], c -> c.triangles(each[0], each[1]));
            }
        }

        private static void noSuchCorner() {
            sentence("Throws `IllegalArgumentException` if there is no such corner");
            for (char family : "bv".toCharArray()) {
                for (int n : new int[] {0, 1, 2, 19, 20}) {
                    fresh();
                    make(9, family, n, 0);
                    takes(c -> c.triangles(9, 0));
                    takes(c -> c.triangles(9, n + 1));
                    for (int corner : new int[] {-1, n + 2, n + 3, LEAST, GREATEST}) {
                        refuses(ARGUMENT, c -> c.triangles(9, corner));
                    }
                }
            }
        }
    }

    private static final class TreeCalls {
        private static final String NO_TREE = "Throws `UnsupportedOperationException` if it is no tree";

        static void all() {
            section("Promise 39");
            plain("the slot", "the node", "Returns to how many nodes a node of a tree is joined.");
            degrees();
            noSuchSlot('t', (c, slot) -> c.degree(slot, 0));
            holdsNone('t', (c, slot) -> c.degree(slot, 0));
            unfit(NO_TREE, "t", (c, slot) -> c.degree(slot, 0));
            noSuchNode("Throws `IllegalArgumentException` if there is no such node", (c, node) -> c.degree(9, node));
            section("Promise 40");
            plain("the slot", "the one node", "the other one",
                    "Returns how many joints the way from one node of a tree to another one has.");
            ways();
            noSuchSlot('t', (c, slot) -> c.far(slot, 0, 3));
            holdsNone('t', (c, slot) -> c.far(slot, 0, 0));
            unfit(NO_TREE, "t", (c, slot) -> c.far(slot, 0, 0));
            noSuchNode("Throws `IllegalArgumentException` if there is no such node, for either",
                    (c, node) -> c.far(9, node, 0) + c.far(9, 0, node));
            noSuchNodeOfBoth();
        }

        private static void degrees() {
            sentence("Returns how many.");
            make(0, 't', 1, 0);
            make(1, 't', 2, 0);
            make(2, 't', 20, 0);
            hold(3, 't', 5, 0, "4,4,4");
            for (int[] each : new int[][] {{0, 0, 0}, {1, 0, 1}, {1, 1, 1}, {2, 0, 19}, {2, 1, 1}, {2, 19, 1}, {3, 4, 4},
                {3, 3, 1}, {3, 0, 1}}) {
                answers(each[2], c -> c.degree(each[0], each[1]));
            }
        }

        private static void ways() {
            sentence("Returns how many.");
            make(0, 't', 1, 0);
            make(1, 't', 2, 0);
            make(2, 't', 20, 0);
            hold(3, 't', 20, 0, "1,2,3,4,5,6,7,8,9,10,11,12,13,14,15,16,17,18");
            hold(4, 't', 5, 0, "4,4,4");
            for (int[] each : new int[][] {{0, 0, 0, 0}, {1, 0, 1, 1}, {1, 1, 0, 1}, {1, 1, 1, 0}, {2, 0, 19, 1},
                {2, 1, 19, 2}, {2, 19, 19, 0}, {3, 0, 19, 19}, {3, 19, 0, 19}, {3, 1, 19, 18}, {3, 0, 0, 0}, {4, 0, 4, 1},
                {4, 0, 3, 2}}) {
                answers(each[3], c -> c.far(each[0], each[1], each[2]));
            }
        }

        private static void noSuchNode(String words, SlotCall call) {
            sentence(words);
            for (int n : new int[] {1, 2, 3, 19, 20}) {
                fresh();
                make(9, 't', n, 0);
                takes(c -> call.on(c, 0));
                takes(c -> call.on(c, n - 1));
                for (int node : new int[] {-1, n, n + 1, 20, 21, LEAST, GREATEST}) {
                    refuses(ARGUMENT, c -> call.on(c, node));
                }
            }
        }

        private static void noSuchNodeOfBoth() {
            for (int n : new int[] {1, 2, 20}) {
                fresh();
                make(9, 't', n, 0);
                for (int node : new int[] {-1, n, LEAST, GREATEST}) {
                    refuses(ARGUMENT, c -> c.far(9, node, n - 1));
                    refuses(ARGUMENT, c -> c.far(9, n - 1, node));
                    refuses(ARGUMENT, c -> c.far(9, node, node));
                }
            }
        }
    }

    private static final class TableCalls {
        private static final String SLOTS_OF_SUMS = "the slot of the rows' sums";

        static void all() {
            section("Promise 41");
            plain(SLOTS_OF_SUMS, "the slot of the columns' sums");
            tables();
            signs();
            noSuchSlotForEither('a', (c, a, b) -> c.tables(a, b));
            oneHoldsNone("Throws `NoSuchElementException` if one of them holds none", 'a', (c, a, b) -> c.tables(a, b));
            tooGreat();
            section("Promise 42");
            plain(SLOTS_OF_SUMS, "the slot of the columns' sums", "Returns the number.");
            cornerNumbers();
            rowsAndColumns();
            noSuchSlotForEither('a', (c, a, b) -> c.corner(a, b, 0, 0));
            oneHoldsNone("Throws `NoSuchElementException` if one of them holds none, or the table has no such place", 'a',
                    (c, a, b) -> c.corner(a, b, 0, 0));
            noSuchPlace();
            unlikeSums();
            section("Promise 43");
            plain(SLOTS_OF_SUMS, "the slot of the columns' sums",
                    "Tells whether there is a table of 0 and 1 with the sums of two partitions.");
            binary();
            noSuchSlotForEither('o', (c, a, b) -> c.isBinary(a, b));
            oneHoldsNone("Throws `NoSuchElementException` if one of them holds none", 'd', (c, a, b) -> c.isBinary(a, b));
            oneUnfit("Throws `UnsupportedOperationException` if one is no partition", PARTITIONS, (c, a, b) -> c.isBinary(a, b));
            unlikeN(PARTITIONS, (c, a, b) -> c.isBinary(a, b));
        }

        private static final String[][] TOLD = {{"a", "", "a", "", "1"}, {"a", "", "u", "0", "1"},
            {"s", "0,0", "a", "", "1"}, {"s", "0,0", "s", "0,0,0,0", "1"}, {"a", "1", "a", "1", "1"},
            {"c", "1,1", "c", "2", "1"}, {"c", "2,2", "c", "2,2", "3"}, {"c", "1,1,1,1", "c", "1,1,1,1", "24"},
            {"c", "3,3,3,3", "c", "3,3,3,3", "2008"}, {"a", "12", "c", "3,3,3,3", "1"}, {"c", "6,6", "c", "6,6", "7"},
            {"u", "0,12", "a", "12", "1"}, {"u", "0,5", "s", "0,1,2,2", "1"}, {"u", "1,4", "s", "0,1,2,2", "3"},
            {"t", "0,3,0", "c", "1,1,1", "1"}, {"c", "2,1,1", "c", "1,2,1", "7"}};

        private static void holdSums(int slot, String letter, String row) {
            char family = letter.charAt(0);
            int size = row.isEmpty() ? 0 : row.split(",").length;
            int sum = 0;
            for (String each : row.split(",")) {
                sum += each.isEmpty() ? 0 : Integer.parseInt(each);
            }
            int n = family == 's' ? size : family == 'u' ? 40 : family == 't' ? size + 2 : sum;
            hold(slot, family, n, size, row);
        }

        private static void tables() {
            sentence("Puts how many tables there are with the sums of two figures into the text.");
            for (String[] each : TOLD) {
                fresh();
                holdSums(0, each[0], each[1]);
                holdSums(9, each[2], each[3]);
                put("7".repeat(200));
                does(c -> c.tables(0, 9));
                textIs(each[4]);
                does(c -> c.tables(9, 0));
                textIs(each[4]);
            }
        }

        private static void signs() {
            sentence("Returns how many signs the text has then.");
            for (String[] each : TOLD) {
                fresh();
                holdSums(0, each[0], each[1]);
                holdSums(9, each[2], each[3]);
                answers(each[4].length(), c -> c.tables(0, 9));
            }
        }

        private static void tooGreat() {
            sentence("Throws `IllegalArgumentException` if one of both has more than 4 numbers, or they have unlike sums, or sums"
                    + " above 12");
            String[][] none = {{"c", "1,1,1,1,1", "c", "5"}, {"c", "1,1,1,1,1", "c", "1,1,1,1,1"},
                {"c", "2,1,1,1", "c", "1,1,1,1,1"}, {"c", "5", "c", "4"}, {"c", "4,1", "c", "4,2"}, {"a", "", "a", "1"},
                {"a", "13", "a", "13"}, {"a", "13", "a", "12"}, {"a", "12", "a", "13"}, {"c", "4,3,3,3", "a", "13"},
                {"s", "0,0,0,0,0", "a", ""}, {"s", "0,0,0,0,0", "s", "0,0,0,0"}, {"u", "1,12", "a", "13"},
                {"u", "0,1,2,3,4", "c", "10"}, {"a", "60", "a", "60"}, {"a", "24", "a", "12"}, {"c", "1,1", "c", "1,1,1"}};
            for (String[] each : none) {
                fresh();
                holdSums(0, each[0], each[1]);
                holdSums(9, each[2], each[3]);
                refuses(ARGUMENT, c -> c.tables(0, 9));
                refuses(ARGUMENT, c -> c.tables(9, 0));
            }
            String[][] some = {{"c", "1,1,1,2", "c", "5"}, {"a", "12", "a", "12"}, {"c", "9,1,1,1", "c", "1,1,1,9"},
                {"s", "0,0,0,0", "a", ""}, {"a", "", "a", ""}};
            for (String[] each : some) {
                fresh();
                holdSums(0, each[0], each[1]);
                holdSums(9, each[2], each[3]);
                takes(c -> c.tables(0, 9));
                takes(c -> c.tables(9, 0));
            }
        }

        /** Rows and columns that are used up, and sums of 0. */
        private static void cornerNumbers() {
            sentence("Returns a number of the corner table with the sums of two figures.");
            String[][] told = {{"c", "1", "c", "1", "1"}, {"c", "4,1", "c", "2,3", "2,2 0,1"},
                {"c", "2,2", "c", "2,2", "2,0 0,2"}, {"u", "0,5", "c", "3,2", "0,0 3,2"},
                {"u", "0,5", "u", "1,4", "0,0 1,4"}, {"s", "0,0", "s", "0,0,0", "0,0,0 0,0,0"},
                {"a", "3", "c", "1,1,1", "1,1,1"}, {"c", "1,1,1", "a", "3", "1 1 1"}};
            for (String[] each : told) {
                fresh();
                holdSums(0, each[0], each[1]);
                holdSums(9, each[2], each[3]);
                put("left alone");
                String[] rows = each[4].split(" ");
                for (int row = 0; row < rows.length; row++) {
                    String[] numbers = rows[row].split(",");
                    for (int column = 0; column < numbers.length; column++) {
                        check(x.corner(0, 9, row, column), Integer.parseInt(numbers[column]));
                        check(x.corner(9, 0, column, row), Integer.parseInt(numbers[column]));
                    }
                }
                textIs("left alone");
            }
            fresh();
            make(0, 'a', 60, 0);
            hold(9, 'a', 60, 0, "60");
            answers(1, c -> c.corner(0, 9, 59, 0));
            answers(1, c -> c.corner(9, 0, 0, 59));
            answers(0, c -> c.corner(0, 0, 0, 59));
            answers(60, c -> c.corner(9, 9, 0, 0));
        }

        private static void rowsAndColumns() {
            sentence("the row, from 0");
            holdSums(0, "c", "4,1,2");
            holdSums(9, "c", "2,5");
            answers(2, c -> c.corner(0, 9, 0, 0));
            answers(1, c -> c.corner(0, 9, 1, 1));
            answers(2, c -> c.corner(0, 9, 2, 1));
            refuses(NONE, c -> c.corner(0, 9, -1, 0));
            refuses(NONE, c -> c.corner(0, 9, 3, 0));
            sentence("the column, from 0");
            holdSums(0, "c", "4,1,2");
            holdSums(9, "c", "2,5");
            answers(2, c -> c.corner(0, 9, 0, 0));
            answers(2, c -> c.corner(0, 9, 0, 1));
            refuses(NONE, c -> c.corner(0, 9, 0, -1));
            refuses(NONE, c -> c.corner(0, 9, 0, 2));
        }

        /** Goes on with the sentence of those that hold none: rows and columns beside the table. */
        private static void noSuchPlace() {
            for (int[] sizes : new int[][] {{0, 0}, {1, 1}, {2, 3}, {3, 2}, {25, 25}}) {
                int rows = sizes[0];
                int columns = sizes[1];
                fresh();
                make(0, 's', rows, 0);
                make(9, 's', columns, 0);
                for (int row : new int[] {-1, rows, rows + 1, LEAST, GREATEST}) {
                    refuses(NONE, c -> c.corner(0, 9, row, 0));
                    refuses(NONE, c -> c.corner(0, 9, row, row));
                }
                for (int column : new int[] {-1, columns, columns + 1, LEAST, GREATEST}) {
                    refuses(NONE, c -> c.corner(0, 9, 0, column));
                }
                if (rows > 0) {
                    takes(c -> c.corner(0, 9, rows - 1, columns - 1));
                    takes(c -> c.corner(0, 9, 0, 0));
                }
            }
        }

        private static void unlikeSums() {
            sentence("Throws `IllegalArgumentException` if they have unlike sums");
            for (String[] each : new String[][] {{"c", "5", "c", "4"}, {"c", "4", "c", "5"}, {"c", "1", "s", "0"},
                {"a", "60", "a", "59"}, {"u", "0,1", "u", "0,2"}, {"a", "60", "c", "1"}}) {
                fresh();
                holdSums(0, each[0], each[1]);
                holdSums(9, each[2], each[3]);
                refuses(ARGUMENT, c -> c.corner(0, 9, 0, 0));
                refuses(ARGUMENT, c -> c.corner(9, 0, 0, 0));
            }
            fresh();
            holdSums(0, "c", "5,8");
            holdSums(9, "u", "6,7");
            takes(c -> c.corner(0, 9, 0, 0));
        }

        private static void binary() {
            sentence("Returns true if so.");
            for (Object[] each : new Object[][] {{0, "", "", true}, {1, "1", "1", true}, {2, "2", "1,1", true},
                {2, "2", "2", false}, {2, "1,1", "1,1", true}, {2, "1,1", "2", true}, {4, "2,2", "2,2", true},
                {4, "3,1", "2,2", false}, {4, "2,1,1", "3,1", true}, {4, "3,1", "3,1", false}, {6, "3,2,1", "3,2,1", true},
                {60, "60", "1" + ",1".repeat(59), true}, {60, "60", "2" + ",1".repeat(58), false},
                {60, "59,1", "2" + ",1".repeat(58), true}}) {
                fresh();
                hold(0, 'a', (Integer) each[0], 0, (String) each[1]);
                hold(9, 'l', (Integer) each[0], 60, (String) each[2]);
                answers(each[3], c -> c.isBinary(0, 9));
                answers(each[3], c -> c.isBinary(9, 0));
            }
        }
    }
}
