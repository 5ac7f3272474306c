import java.io.IOException;
import java.math.BigInteger;

/**
 * The boundary cases of "Order" and "Slots", and of the terms for partitions, splits, subsets, brackets and
 * branches, trees and tables.
 */
public final class BoundariesOfShapes extends BoundaryBench {

    public static void main(String[] args) throws IOException {
        readDocument();
        OrderAndSlots.all();
        ShapesOfFigures.all();
        finish("BoundariesOfShapes");
    }

    private static final class OrderAndSlots {

        static void all() {
            section("Order");
            ahead();
            ranks();
            goesRound();
            section("Slots");
            tenSlots();
            sameFamilies();
        }

        /** The first place decides alone, and the last one if all ahead of it are the same. */
        private static void ahead() {
            sentence("Of two unlike figures of a family that is ahead which has the lesser number at the first place where they"
                    + " differ.");
            isAhead('a', 6, 0, "3,3", "4,1,1");
            isAhead('a', 6, 0, "3,2,1", "3,3");
            isAhead('a', 6, 0, "1,1,1,1,1,1", "6");
            isAhead('l', 6, 3, "2,2,2", "3,2,1");
            isAhead('g', 6, 3, "3,1,1,1", "3,2,1");
            isAhead('d', 6, 0, "3,2,1", "4,2");
            isAhead('o', 6, 0, "3,1,1,1", "3,3");
            isAhead('s', 4, 0, "0,0,1,2", "0,1,0,0");
            isAhead('k', 4, 2, "0,1,1,0", "0,1,1,1");
            isAhead('u', 9, 3, "0,7,8", "1,2,3");
            isAhead('u', 9, 3, "0,7,8", "6,7,8");
            isAhead('b', 3, 0, "0,0,1,1,0,1", "0,1,0,0,1,1");
            isAhead('v', 3, 0, "1,0,1,1,0,0,0", "1,1,0,0,1,0,0");
            isAhead('t', 5, 0, "0,4,4", "1,0,0");
            isAhead('t', 5, 0, "4,4,3", "4,4,4");
            isAhead('c', 6, 3, "1,4,1", "2,1,3");
        }

        private static void isAhead(char family, int n, int k, String one, String other) {
            fresh();
            hold(0, family, n, k, one);
            hold(9, family, n, k, other);
            answers(-1, c -> c.compare(0, 9));
            answers(1, c -> c.compare(9, 0));
            answers(0, c -> c.compare(0, 0));
            PartitionCabinet c = twin();
            c.rank(0);
            BigInteger lesser = new BigInteger(textOf(c));
            c.rank(9);
            check(lesser.compareTo(new BigInteger(textOf(c))), -1);
        }

        /** The first one has none ahead of it, the last one all but itself. */
        private static void ranks() {
            sentence("The rank of a figure is how many of its family are ahead of it.");
            for (char family : FAMILIES.toCharArray()) {
                for (int n : new int[] {least(family), 1, 4, 5}) {
                    int count = Integer.parseInt(countOf(family, n, 2));
                    PartitionCabinet c = new PartitionCabinet();
                    for (int rank = 0; rank < count && rank < 15; rank++) {
                        c.draw(1, family, n, 2, rank);
                        int ahead = 0;
                        for (int other = 0; other < count && other < 16; other++) {
                            c.draw(2, family, n, 2, other);
                            ahead += c.compare(2, 1) < 0 ? 1 : 0;
                        }
                        c = new PartitionCabinet();
                        c.draw(1, family, n, 2, rank);
                        check(c.rank(1) + textOf(c), Integer.toString(ahead).length() + Integer.toString(ahead));
                    }
                }
            }
            fresh();
            make(1, 's', 25, 0);
            answers(1, c -> c.rank(1));
            textIs("0");
            does(c -> c.previous(1));
            answers(19, c -> c.rank(1));
            textIs("4638590332229999352");
            make(1, 't', 20, 0);
            does(c -> c.previous(1));
            answers(24, c -> c.rank(1));
            textIs("262143999999999999999999");
        }

        private static void goesRound() {
            sentence("The order goes round: behind the last one is the first one.");
            for (char family : FAMILIES.toCharArray()) {
                for (int n : new int[] {least(family), least(family) + 1, 3, 6, greatest(family)}) {
                    for (int k : new int[] {0, 1, 3, n}) {
                        if (!countOf(family, n, k).equals("0")) {
                            roundOf(family, n, k);
                        }
                    }
                }
            }
        }

        private static void roundOf(char family, int n, int k) {
            boolean isAlone = countOf(family, n, k).equals("1");
            fresh();
            make(1, family, n, k);
            String first = rowOf(twin(), 1);
            answers(false, c -> c.previous(1));
            String last = rowOf(twin(), 1);
            check(first.equals(last), isAlone);
            wouldAnswer(first.isEmpty() ? -1 : Integer.parseInt(first.split(",")[0]), c -> c.skip(1, 1));
            answers(false, c -> c.next(1));
            rowIs(1, first);
            does(c -> c.skip(1, -1));
            rowIs(1, last);
            does(c -> c.skip(1, 1));
            rowIs(1, first);
            does(c -> c.draw(1, family, n, k, -1));
            rowIs(1, last);
        }

        private static void tenSlots() {
            sentence("Ten slots, numbered from 0, hold a figure with its family each, or none, as at first.");
            check(x.held(), 0);
            for (int slot = 0; slot < 10; slot++) {
                int empty = slot;
                refuses(NONE, c -> c.family(empty));
            }
            String letters = FAMILIES.substring(0, 10);
            for (int slot = 0; slot < 10; slot++) {
                make(slot, letters.charAt(slot), 4, slot % 4 + 1);
                check(x.held(), slot + 1);
            }
            for (int slot = 0; slot < 10; slot++) {
                letterIs(slot, letters.charAt(slot));
                PartitionCabinet alone = new PartitionCabinet();
                alone.make(0, letters.charAt(slot), 4, slot % 4 + 1);
                rowIs(slot, rowOf(alone, 0));
            }
            for (int slot : NO_SLOTS) {
                refuses(INDEX, c -> c.family(slot));
                refuses(INDEX, c -> c.make(slot, 'a', 4, 0));
            }
        }

        private static void sameFamilies() {
            sentence("Two families are the same if their letters and both numbers are.");
            make(0, 'l', 5, 4);
            make(1, 'l', 5, 4);
            make(2, 'g', 5, 4);
            make(3, 'l', 4, 4);
            make(4, 'l', 5, 3);
            answers(0, c -> c.compare(0, 1));
            for (int slot = 2; slot <= 4; slot++) {
                int other = slot;
                refuses(ARGUMENT, c -> c.compare(0, other));
                refuses(ARGUMENT, c -> c.compare(other, 0));
            }
            fresh();
            make(0, 'b', 0, 0);
            make(1, 'a', 0, 0);
            make(2, 'b', 0, 60);
            refuses(ARGUMENT, c -> c.compare(0, 1));
            refuses(ARGUMENT, c -> c.compare(0, 2));
        }
    }

    private static final class ShapesOfFigures {

        static void all() {
            section("Partitions");
            turned();
            turnedFamilies();
            square();
            excess();
            crank();
            matched();
            hook();
            dominates();
            section("Splits");
            blocks();
            finer();
            finest();
            section("Subsets");
            door();
            section("Brackets and branches");
            knots();
            polygon();
            section("Trees");
            nodes();
            joints();
            section("Tables");
            sums();
            cornerTable();
        }

        private static void turned() {
            sentence("Turned, a partition has as its first part how many parts it has, as its second one how many of these are"
                    + " above 1, and so on.");
            String[][] told = {{"", ""}, {"1", "1"}, {"2", "1,1"}, {"1,1", "2"}, {"2,1", "2,1"}, {"4,3,1", "3,2,2,1"},
                {"3,3,3", "3,3,3"}, {"5,1,1", "3,1,1,1,1"}};
            for (String[] each : told) {
                fresh();
                hold(1, 'a', sumOf(each[0]), 0, each[0]);
                answers(each[1].isEmpty() ? 0 : each[1].charAt(0) - '0', c -> c.turn(1));
                rowIs(1, each[1]);
            }
            fresh();
            make(1, 'a', 60, 0);
            answers(60, c -> c.turn(1));
            rowIs(1, "60");
            answers(1, c -> c.turn(1));
            check(x.length(1), 60);
        }

        private static int sumOf(String row) {
            int sum = 0;
            for (String number : row.split(",")) {
                sum += number.isEmpty() ? 0 : Integer.parseInt(number);
            }
            return sum;
        }

        private static void turnedFamilies() {
            sentence("Turning one of 'l' makes one of 'g', and the other way round, and one of 'd' or 'o' one of 'a', with the"
                    + " same n and k.");
            String then = "agl" + "aa";
            for (int i = 0; i < 5; i++) {
                char from = "algdo".charAt(i);
                char to = then.charAt(i);
                for (int[] family : new int[][] {{0, 0}, {0, 60}, {5, 60}, {5, 3}, {60, 60}, {60, 1}}) {
                    fresh();
                    make(1, from, family[0], family[1]);
                    does(c -> c.turn(1));
                    letterIs(1, to);
                    make(2, to, family[0], family[1]);
                    takes(c -> c.compare(1, 2));
                }
            }
        }

        private static void square() {
            sentence("The square is the greatest number for which so many parts are not below it.");
            Object[][] told = {{"", 0}, {"1", 1}, {"9", 1}, {"1,1", 1}, {"2,1", 1}, {"2,2", 2}, {"3,2", 2}, {"2,2,2", 2},
                {"3,3,2", 2}, {"3,3,3", 3}, {"4,4,4,3", 3}, {"4,4,4,4", 4}, {"8,8,8,8,7,7,7", 7}, {"8,8,8,8,7,7,6", 6}};
            for (Object[] each : told) {
                String row = (String) each[0];
                fresh();
                hold(1, 'a', sumOf(row), 0, row);
                answers(each[1], c -> c.square(1));
            }
        }

        private static void excess() {
            sentence("The excess is the greatest part less how many parts there are, 0 without parts.");
            Object[][] told = {{"", 0}, {"1", 0}, {"2", 1}, {"1,1", -1}, {"60", 59}, {"3,1,1", 0}};
            for (Object[] each : told) {
                String row = (String) each[0];
                fresh();
                hold(1, 'a', sumOf(row), 0, row);
                answers(each[1], c -> c.excess(1));
            }
            fresh();
            make(1, 'a', 60, 0);
            answers(-59, c -> c.excess(1));
        }

        /** Parts that are just as great as there are parts 1 are not greater. */
        private static void crank() {
            sentence("The crank is, without a part 1, the greatest part, 0 without parts, otherwise how many parts are greater"
                    + " than how many parts are 1, less how many parts are 1.");
            Object[][] told = {{"", 0}, {"2", 2}, {"60", 60}, {"1", -1}, {"1,1", -2}, {"2,1", 0}, {"3,2,1", 1},
                {"2,1,1", -2}, {"3,1,1", -1}, {"3,3,2,1,1", 0}, {"4,3,1,1,1", -2}, {"5,4,3,2", 5}};
            for (Object[] each : told) {
                String row = (String) each[0];
                fresh();
                hold(1, 'a', sumOf(row), 0, row);
                answers(each[1], c -> c.crank(1));
            }
            fresh();
            make(1, 'a', 60, 0);
            answers(-60, c -> c.crank(1));
        }

        private static void matched() {
            sentence("From unlike parts to odd ones each part is halved as often as it can be, doubling how many there are; from"
                    + " odd ones to unlike ones, of each part that is there some times, as many of it are put together as the"
                    + " binary digits of its number tell.");
            String[][] told = {{"", ""}, {"1", "1"}, {"2", "1,1"}, {"2,1", "1,1,1"}, {"3", "3"}, {"4", "1,1,1,1"},
                {"6,3", "3,3,3"}, {"12,5,4,1", "5,3,3,3,3,1,1,1,1,1"}, {"32,16,8,4", "1" + ",1".repeat(59)},
                {"60", "15,15,15,15"}, {"59", "59"}, {"59,1", "59,1"}, {"58,2", "29,29,1,1"}};
            for (String[] each : told) {
                fresh();
                hold(1, 'd', sumOf(each[0]), 7, each[0]);
                answers(each[1].isEmpty() ? 0 : each[1].split(",").length, c -> c.match(1));
                rowIs(1, each[1]);
                letterIs(1, 'o');
                answers(each[0].isEmpty() ? 0 : each[0].split(",").length, c -> c.match(1));
                rowIs(1, each[0]);
                letterIs(1, 'd');
            }
        }

        private static void hook() {
            sentence("The hook at a row and a column is how many there are in this row from this column on, and, behind this row,"
                    + " rows that reach this column.");
            hold(1, 'a', 1, 0, "1");
            answers(1, c -> c.hook(1, 0, 0));
            hold(1, 'a', 60, 0, "60");
            answers(60, c -> c.hook(1, 0, 0));
            answers(1, c -> c.hook(1, 0, 59));
            make(1, 'a', 60, 0);
            answers(60, c -> c.hook(1, 0, 0));
            answers(1, c -> c.hook(1, 59, 0));
            hold(1, 'a', 8, 0, "4,2,2");
            int[][] due = {{6, 5, 2, 1}, {3, 2}, {2, 1}};
            for (int row = 0; row < 3; row++) {
                for (int column = 0; column < due[row].length; column++) {
                    check(x.hook(1, row, column), due[row][column]);
                }
            }
        }

        private static void dominates() {
            sentence("One partition dominates another one of the same n if its first part is not less, and the first two together"
                    + " are not, and so on.");
            Object[][] told = {{"", "", true, true}, {"1", "1", true, true}, {"2", "1,1", true, false},
                {"3,3", "4,1,1", false, false}, {"4,2", "3,3", true, false}, {"3,2,1", "2,2,2", true, false},
                {"2,2,2", "3,1,1,1", false, false}, {"5,1", "5,1", true, true}, {"6", "1,1,1,1,1,1", true, false},
                {"4,4,4", "5,3,3,1", false, false}, {"5,3,2,2", "5,3,2,1,1", true, false}};
            for (Object[] each : told) {
                String one = (String) each[0];
                String other = (String) each[1];
                fresh();
                hold(1, 'a', sumOf(one), 0, one);
                hold(2, 'l', sumOf(one), 60, other);
                answers(each[2], c -> c.isOver(1, 2));
                answers(each[3], c -> c.isOver(2, 1));
            }
        }

        private static void blocks() {
            sentence("The things that have the same number are a block, which has this number.");
            Object[][] told = {{"", 0}, {"0", 1}, {"0,0", 1}, {"0,1", 2}, {"0,1,0", 2}, {"0,1,2,0,2", 3}};
            for (Object[] each : told) {
                String row = (String) each[0];
                fresh();
                hold(1, 's', row.isEmpty() ? 0 : row.split(",").length, 0, row);
                answers(each[1], c -> c.blocks(1));
            }
        }

        private static void finer() {
            sentence("One split is finer than another one of as many things if things of one block are always in one block"
                    + " there.");
            Object[][] told = {{"", "", true, true}, {"0", "0", true, true}, {"0,1", "0,0", true, false},
                {"0,0", "0,0", true, true}, {"0,0,1", "0,1,1", false, false}, {"0,1,0,2", "0,1,0,1", true, false},
                {"0,1,2,3", "0,0,0,0", true, false}, {"0,1,1,0", "0,1,1,0", true, true},
                {"0,1,2,2,0", "0,1,2,2,2", false, false}};
            for (Object[] each : told) {
                String one = (String) each[0];
                String other = (String) each[1];
                int n = one.isEmpty() ? 0 : one.split(",").length;
                fresh();
                hold(1, 's', n, 0, one);
                hold(2, 's', n, 9, other);
                answers(each[2], c -> c.isFiner(1, 2));
                answers(each[3], c -> c.isFiner(2, 1));
            }
        }

        /** A chain of things that share blocks, by turns of one and of the other split, is one block of the join. */
        private static void finest() {
            sentence("The join has the finest blocks for which both are finer than it, the meet the blocks of things that are in"
                    + " one block in both.");
            String[][] told = {{"", "", "", ""}, {"0", "0", "0", "0"}, {"0,1", "0,0", "0,0", "0,1"},
                {"0,0,1,1", "0,1,1,2", "0,0,0,0", "0,1,2,3"}, {"0,1,2,3", "0,1,2,3", "0,1,2,3", "0,1,2,3"},
                {"0,0,1,1,2,2", "0,1,1,2,2,3", "0,0,0,0,0,0", "0,1,2,3,4,5"},
                {"0,1,2,2,1,0", "0,1,2,3,4,2", "0,1,0,0,1,0", "0,1,2,3,4,5"},
                {"0,0,0,1,1", "0,0,1,1,1", "0,0,0,0,0", "0,0,1,2,2"}, {"0,0,1,2", "0,1,1,2", "0,0,0,1", "0,1,2,3"}};
            for (String[] each : told) {
                int n = each[0].isEmpty() ? 0 : each[0].split(",").length;
                fresh();
                hold(1, 's', n, 0, each[0]);
                hold(2, 's', n, 0, each[1]);
                for (int turn = 0; turn < 2; turn++) {
                    int one = 1 + turn;
                    int other = 2 - turn;
                    does(c -> c.join(3, one, other));
                    rowIs(3, each[2]);
                    does(c -> c.meet(3, one, other));
                    rowIs(3, each[3]);
                }
            }
        }

        private static void door() {
            sentence("By the door, those of k of n things stand in a row: first those of k of n less 1 things, in that row, then,"
                    + " backwards, those of k less 1 of n less 1 things, each with the thing n less 1; there is one of none, and"
                    + " one of all; the row goes round.");
            String[][] rows = {{"1", "0", ""}, {"1", "1", "0"}, {"2", "1", "0 1"}, {"3", "2", "0,1 1,2 0,2"},
                {"4", "1", "0 1 2 3"}, {"4", "2", "0,1 1,2 0,2 2,3 1,3 0,3"}, {"4", "3", "0,1,2 0,2,3 1,2,3 0,1,3"}};
            for (String[] each : rows) {
                int n = Integer.parseInt(each[0]);
                int k = Integer.parseInt(each[1]);
                String[] row = each[2].split(" ");
                fresh();
                hold(1, 'u', n, k, row[0]);
                for (int i = 0; i < row.length; i++) {
                    rowIs(1, row[i]);
                    wouldAnswer(1, c -> c.doorRank(1));
                    PartitionCabinet c = twin();
                    c.doorRank(1);
                    check(textOf(c), Integer.toString(i));
                    does(d -> d.door(1));
                }
                rowIs(1, row[0]);
            }
        }

        private static void knots() {
            sentence("The brackets of a knot are 0, the brackets of its left side, 1, and those of its right side, no knot having"
                    + " none; its branches are 1, those of its left side, and those of its right side.");
            String[][] told = {{"", "0"}, {"0,1", "1,0,0"}, {"0,0,1,1", "1,1,0,0,0"}, {"0,1,0,1", "1,0,1,0,0"},
                {"0,0,1,1,0,1", "1,1,0,0,1,0,0"}, {"0,0,1,0,1,1", "1,1,0,1,0,0,0"}, {"0,0,0,1,1,1", "1,1,1,0,0,0,0"}};
            for (String[] each : told) {
                int n = each[0].isEmpty() ? 0 : each[0].split(",").length / 2;
                fresh();
                hold(1, 'b', n, 3, each[0]);
                answers(2 * n + 1, c -> c.branch(1));
                rowIs(1, each[1]);
                letterIs(1, 'v');
                answers(2 * n, c -> c.branch(1));
                rowIs(1, each[0]);
                letterIs(1, 'b');
            }
        }

        private static void polygon() {
            sentence("The polygon of n knots has n + 2 corners, numbered from 0; the side from 0 to n + 1 belongs to the whole,"
                    + " and a side from i to j that belongs to a knot with so many knots on its left side has a triangle with"
                    + " the corner i + 1 + so many, the sides to which belong to its two sides.");
            String[][] told = {{"", "00"}, {"0,1", "111"}, {"0,1,0,1", "1212"}, {"0,0,1,1", "2121"},
                {"0,1,0,1,0,1", "12213"}, {"0,0,0,1,1,1", "31221"}, {"0,0,1,1,0,1", "21312"}, {"0,1,0,0,1,1", "13122"},
                {"0,0,1,0,1,1", "22131"}};
            for (String[] each : told) {
                int n = each[0].isEmpty() ? 0 : each[0].split(",").length / 2;
                fresh();
                hold(1, 'b', n, 0, each[0]);
                cornersAre(n, each[1]);
                does(c -> c.branch(1));
                cornersAre(n, each[1]);
            }
            fresh();
            make(1, 'v', 20, 0);
            check(x.triangles(1, 0), 1);
            check(x.triangles(1, 1), 2);
            check(x.triangles(1, 20), 1);
            check(x.triangles(1, 21), 20);
            make(1, 'b', 20, 0);
            check(x.triangles(1, 0), 20);
            check(x.triangles(1, 21), 1);
        }

        private static void cornersAre(int n, String due) {
            StringBuilder told = new StringBuilder();
            for (int corner = 0; corner <= n + 1; corner++) {
                told.append(x.triangles(1, corner));
            }
            check(told.toString(), due);
            refuses(ARGUMENT, c -> c.triangles(1, -1));
            refuses(ARGUMENT, c -> c.triangles(1, n + 2));
        }

        private static void nodes() {
            sentence("The nodes are 0 to n less 1.");
            for (int n : new int[] {1, 2, 3, 20}) {
                fresh();
                make(1, 't', n, 0);
                takes(c -> c.degree(1, 0));
                takes(c -> c.degree(1, n - 1));
                takes(c -> c.far(1, 0, n - 1));
                for (int node : new int[] {-1, n, LEAST, GREATEST}) {
                    refuses(ARGUMENT, c -> c.degree(1, node));
                    refuses(ARGUMENT, c -> c.far(1, node, 0));
                    refuses(ARGUMENT, c -> c.far(1, 0, node));
                }
            }
        }

        /** One node has no joint, two have one without a code; the least node is joined first. */
        private static void joints() {
            sentence("By a code, again and again the least node that is not done with and does not stand in what is left of the"
                    + " code is joined to the first number of that, which goes, and is done with; the last two nodes are"
                    + " joined.");
            Object[][] told = {{1, "", ""}, {2, "", "01"}, {3, "0", "01 02"}, {3, "1", "01 12"}, {3, "2", "02 12"},
                {4, "3,3", "03 13 23"}, {4, "0,1", "02 01 13"}, {5, "1,2,3", "01 12 23 34"}, {5, "0,0,0", "01 02 03 04"},
                {6, "3,3,3,4", "03 13 23 34 45"}, {6, "5,0,5,0", "15 02 35 04 05"}};
            for (Object[] each : told) {
                int n = (Integer) each[0];
                String row = (String) each[1];
                String joined = (String) each[2];
                fresh();
                hold(1, 't', n, 0, row);
                for (int one = 0; one < n; one++) {
                    int degree = 0;
                    for (int other = 0; other < n; other++) {
                        boolean isJoined = joined.contains("" + Math.min(one, other) + Math.max(one, other));
                        degree += isJoined ? 1 : 0;
                        check(x.far(1, one, other) == 1, isJoined);
                    }
                    check(x.degree(1, one), degree);
                }
            }
        }

        private static void sums() {
            sentence("Two figures tell the sums of the rows and of the columns of a table of numbers not below 0.");
            Object[][] told = {{"", "", "1"}, {"1", "1", "1"}, {"1,1", "2", "1"}, {"1,1", "1,1", "2"}, {"2,2", "2,2", "3"},
                {"2,1", "1,1,1", "3"}, {"12", "12", "1"}, {"6,6", "6,6", "7"}, {"3,3,3,3", "3,3,3,3", "2008"}};
            for (Object[] each : told) {
                String one = (String) each[0];
                String other = (String) each[1];
                fresh();
                hold(1, 'a', sumOf(one), 0, one);
                hold(2, 'a', sumOf(one), 0, other);
                does(c -> c.tables(1, 2));
                textIs((String) each[2]);
                does(c -> c.tables(2, 1));
                textIs((String) each[2]);
            }
        }

        private static void cornerTable() {
            sentence("The corner table has at its first place as much as can be, then at the next one of the row, and so on, row"
                    + " by row.");
            String[][] told = {{"1", "1", "1"}, {"2,3", "4,1", "2,0 2,1"}, {"3,1,2", "1,3,2", "1,2,0 0,1,0 0,0,2"},
                {"5,1", "2,2,2", "2,2,1 0,0,1"}, {"2,2,2", "2,2,2", "2,0,0 0,2,0 0,0,2"}, {"1,5", "5,1", "1,0 4,1"}};
            for (String[] each : told) {
                int n = sumOf(each[0]);
                fresh();
                hold(1, 'c', n, each[0].split(",").length, each[0]);
                hold(2, 'c', n, each[1].split(",").length, each[1]);
                String[] rows = each[2].split(" ");
                for (int row = 0; row < rows.length; row++) {
                    String[] numbers = rows[row].split(",");
                    for (int column = 0; column < numbers.length; column++) {
                        check(x.corner(1, 2, row, column), Integer.parseInt(numbers[column]));
                    }
                }
            }
            fresh();
            hold(1, 's', 5, 0, "0,1,2,0,1");
            hold(2, 's', 4, 0, "0,1,1,2");
            String[] rows = {"0,0,0,0", "0,1,0,0", "0,0,1,1", "0,0,0,0", "0,0,0,1"};
            for (int row = 0; row < 5; row++) {
                for (int column = 0; column < 4; column++) {
                    check(x.corner(1, 2, row, column), rows[row].charAt(2 * column) - '0');
                }
            }
        }
    }
}
