import java.io.IOException;

/** The boundary cases of promises 21 to 35: partitions, splits and subsets. */
public final class BoundariesOfSetCalls extends BoundaryBench {

    public static void main(String[] args) throws IOException {
        readDocument();
        PartitionCalls.all();
        SplitCalls.all();
        SubsetCalls.all();
        finish("BoundariesOfSetCalls");
    }

    private static final class PartitionCalls {
        private static final String NO_PARTITION = "Throws `UnsupportedOperationException` if it is no partition";

        static void all() {
            section("Promise 21");
            plain("the slot", "Lets a partition become itself, turned.");
            firstParts();
            noSuchSlot('a', (c, slot) -> c.turn(slot));
            holdsNone('a', (c, slot) -> c.turn(slot));
            unfit(NO_PARTITION, PARTITIONS, (c, slot) -> c.turn(slot));
            section("Promise 22");
            plain("the slot", "Returns the square of a partition.");
            squares();
            noSuchSlot('a', (c, slot) -> c.square(slot));
            holdsNone('a', (c, slot) -> c.square(slot));
            unfit(NO_PARTITION, PARTITIONS, (c, slot) -> c.square(slot));
            section("Promise 23");
            plain("the slot", "Returns the excess of a partition.");
            excesses();
            noSuchSlot('a', (c, slot) -> c.excess(slot));
            holdsNone('a', (c, slot) -> c.excess(slot));
            unfit(NO_PARTITION, PARTITIONS, (c, slot) -> c.excess(slot));
            section("Promise 24");
            plain("the slot", "Returns the crank of a partition.");
            cranks();
            noSuchSlot('a', (c, slot) -> c.crank(slot));
            holdsNone('a', (c, slot) -> c.crank(slot));
            unfit(NO_PARTITION, PARTITIONS, (c, slot) -> c.crank(slot));
            section("Promise 25");
            plain("the slot");
            matches();
            matchLengths();
            noSuchSlot('d', (c, slot) -> c.match(slot));
            holdsNone('o', (c, slot) -> c.match(slot));
            unfit("Throws `UnsupportedOperationException` if it is none of these", "do", (c, slot) -> c.match(slot));
            often();
            hooks();
            fillings();
            over();
        }

        private static void firstParts() {
            sentence("Returns its first part then, 0 without parts.");
            for (char family : PARTITIONS.toCharArray()) {
                fresh();
                make(0, family, 0, 0);
                answers(0, c -> c.turn(0));
                make(0, family, 1, 1);
                answers(1, c -> c.turn(0));
                make(0, family, 60, 60);
                int length = x.length(0);
                answers(length, c -> c.turn(0));
                check(x.at(0, 0), length);
                hold(0, 'a', 60, 0, "60");
                answers(1, c -> c.turn(0));
                answers(60, c -> c.turn(0));
            }
        }

        private static void squares() {
            sentence("Returns the square.");
            for (Object[] each : new Object[][] {{0, "", 0}, {1, "1", 1}, {4, "2,2", 2}, {3, "2,1", 1},
                {49, "7,7,7,7,7,7,7", 7}, {48, "7,7,7,7,7,7,6", 6}, {60, "60", 1}}) {
                fresh();
                hold(9, 'l', (Integer) each[0], 60, (String) each[1]);
                answers(each[2], c -> c.square(9));
            }
        }

        private static void excesses() {
            sentence("Returns the excess.");
            for (Object[] each : new Object[][] {{0, "", 0}, {1, "1", 0}, {60, "60", 59}, {60, "1" + ",1".repeat(59), -59},
                {2, "1,1", -1}}) {
                fresh();
                hold(9, 'g', (Integer) each[0], 60, (String) each[1]);
                answers(each[2], c -> c.excess(9));
            }
        }

        private static void cranks() {
            sentence("Returns the crank.");
            for (Object[] each : new Object[][] {{0, "", 0}, {1, "1", -1}, {2, "2", 2}, {60, "60", 60},
                {60, "1" + ",1".repeat(59), -60}, {60, "59,1", 0}, {60, "58,2", 58}, {3, "2,1", 0}, {4, "2,1,1", -2},
                {5, "3,1,1", -1}}) {
                fresh();
                hold(9, 'l', (Integer) each[0], 60, (String) each[1]);
                answers(each[2], c -> c.crank(9));
            }
        }

        private static void matches() {
            sentence("Lets a partition of 'd' become one of 'o', or one of 'o' one of 'd', with the same n and k.");
            for (int[] family : new int[][] {{0, 0}, {0, 60}, {1, 5}, {2, 0}, {60, 60}}) {
                fresh();
                make(0, 'd', family[0], family[1]);
                make(1, 'o', family[0], family[1]);
                make(2, 'd', family[0], family[1]);
                String row = rowOf(twin(), 0);
                does(c -> c.match(0));
                letterIs(0, 'o');
                takes(c -> c.compare(0, 1));
                refuses(ARGUMENT, c -> c.compare(0, 2));
                does(c -> c.match(0));
                letterIs(0, 'd');
                takes(c -> c.compare(0, 2));
                rowIs(0, row);
            }
        }

        private static void matchLengths() {
            sentence("Returns how many parts it has then.");
            for (Object[] each : new Object[][] {{'d', 0, "", 0}, {'o', 0, "", 0}, {'d', 1, "1", 1}, {'d', 2, "2", 2},
                {'d', 60, "32,16,8,4", 60}, {'o', 60, "1" + ",1".repeat(59), 4}, {'o', 32, "1" + ",1".repeat(31), 1},
                {'o', 31, "1" + ",1".repeat(30), 5}, {'d', 59, "59", 1}, {'o', 6, "3,3", 1}, {'o', 9, "3,3,3", 2}}) {
                fresh();
                hold(9, (Character) each[0], (Integer) each[1], 0, (String) each[2]);
                answers(each[3], c -> c.match(9));
                check(x.length(9), each[3]);
            }
        }

        private static void often() {
            section("Promise 26");
            plain("the slot", "the number", "Returns how often a number stands in the row of a figure.");
            sentence("Returns how often.");
            make(0, 'a', 60, 0);
            make(1, 'a', 0, 0);
            hold(2, 'u', 40, 3, "0,20,39");
            make(3, 's', 25, 0);
            make(4, 'v', 20, 0);
            make(5, 't', 20, 0);
            for (Object[] each : new Object[][] {{0, 1, 60}, {0, 0, 0}, {0, 2, 0}, {0, 60, 0}, {1, 0, 0}, {1, 1, 0},
                {2, 0, 1}, {2, 20, 1}, {2, 39, 1}, {2, 40, 0}, {2, 1, 0}, {3, 0, 25}, {3, 1, 0}, {4, 0, 21}, {4, 1, 20},
                {5, 0, 18}, {2, -1, 0}, {2, LEAST, 0}, {2, GREATEST, 0}, {1, -1, 0}}) {
                answers(each[2], c -> c.often((Integer) each[0], (Integer) each[1]));
            }
            noSuchSlot('t', (c, slot) -> c.often(slot, 0));
            holdsNone('u', (c, slot) -> c.often(slot, 0));
        }

        private static void hooks() {
            section("Promise 27");
            plain("the slot", "Returns a hook of a partition.");
            sentence("the number of the part, from 0");
            hold(0, 'a', 6, 0, "4,2");
            answers(2, c -> c.hook(0, 1, 0));
            answers(5, c -> c.hook(0, 0, 0));
            refuses(NONE, c -> c.hook(0, 2, 0));
            refuses(NONE, c -> c.hook(0, -1, 0));
            sentence("the column, from 0");
            hold(0, 'a', 6, 0, "4,2");
            answers(5, c -> c.hook(0, 0, 0));
            answers(1, c -> c.hook(0, 0, 3));
            refuses(NONE, c -> c.hook(0, 0, 4));
            refuses(NONE, c -> c.hook(0, 0, -1));
            sentence("Returns the hook.");
            make(0, 'a', 60, 0);
            hold(1, 'a', 60, 0, "60");
            hold(2, 'o', 1, 0, "1");
            answers(60, c -> c.hook(0, 0, 0));
            answers(1, c -> c.hook(0, 59, 0));
            answers(60, c -> c.hook(1, 0, 0));
            answers(1, c -> c.hook(1, 0, 59));
            answers(1, c -> c.hook(2, 0, 0));
            noSuchSlot('a', (c, slot) -> c.hook(slot, 0, 0));
            noSuchHook();
            noHookOfOthers();
        }

        private static void noSuchHook() {
            sentence("Throws `NoSuchElementException` if that slot holds none, or its partition, if it is one, has no such"
                    + " place");
            for (int slot = 0; slot < 10; slot++) {
                int empty = slot;
                refuses(NONE, c -> c.hook(empty, 0, 0));
            }
            hold(0, 'a', 7, 0, "4,2,1");
            make(1, 'a', 0, 0);
            make(2, 'g', 60, 1);
            int[] lengths = {4, 2, 1};
            for (int row = 0; row < 3; row++) {
                int own = row;
                takes(c -> c.hook(0, own, 0));
                takes(c -> c.hook(0, own, lengths[own] - 1));
                for (int column : new int[] {-1, lengths[row], lengths[row] + 1, LEAST, GREATEST}) {
                    refuses(NONE, c -> c.hook(0, own, column));
                }
            }
            for (int row : new int[] {-1, 3, 4, LEAST, GREATEST}) {
                refuses(NONE, c -> c.hook(0, row, 0));
            }
            refuses(NONE, c -> c.hook(1, 0, 0));
            takes(c -> c.hook(2, 59, 0));
            refuses(NONE, c -> c.hook(2, 60, 0));
            refuses(NONE, c -> c.hook(2, 0, 1));
        }

        private static void noHookOfOthers() {
            sentence(NO_PARTITION);
            for (char family : FAMILIES.toCharArray()) {
                fresh();
                make(0, family, 4, 2);
                if (PARTITIONS.indexOf(family) >= 0) {
                    takes(c -> c.hook(0, 0, 0));
                } else {
                    refuses(UNFIT, c -> c.hook(0, 0, 0));
                    refuses(UNFIT, c -> c.hook(0, -1, 0));
                    refuses(UNFIT, c -> c.hook(0, 0, 99));
                }
            }
        }

        private static void fillings() {
            section("Promise 28");
            plain("the slot");
            sentence("Puts how many fillings a partition has into the text: tables of its places with the numbers from 1 to n,"
                    + " each once, that rise along each row and down each column.");
            for (Object[] each : new Object[][] {{0, "", "1"}, {1, "1", "1"}, {2, "2", "1"}, {2, "1,1", "1"},
                {3, "2,1", "2"}, {4, "2,2", "2"}, {5, "3,2", "5"}, {6, "3,2,1", "16"}, {60, "60", "1"},
                {60, "1" + ",1".repeat(59), "1"}, {60, "59,1", "59"}, {60, "30,30", "3814986502092304"},
                {20, "6,5,4,3,2", "141892608"}}) {
                fresh();
                hold(9, 'a', (Integer) each[0], 0, (String) each[1]);
                put("9".repeat(200));
                does(c -> c.fillings(9));
                textIs((String) each[2]);
            }
            sentence("Returns how many signs the text has then.");
            for (Object[] each : new Object[][] {{0, "", 1}, {1, "1", 1}, {10, "9,1", 1}, {11, "10,1", 2}, {60, "30,30", 16},
                {60, "60", 1}}) {
                fresh();
                hold(9, 'a', (Integer) each[0], 0, (String) each[1]);
                put("9".repeat(200));
                answers(each[2], c -> c.fillings(9));
            }
            noSuchSlot('a', (c, slot) -> c.fillings(slot));
            holdsNone('a', (c, slot) -> c.fillings(slot));
            unfit(NO_PARTITION, PARTITIONS, (c, slot) -> c.fillings(slot));
        }

        private static void over() {
            section("Promise 29");
            plain("the one", "the other one", "Tells whether one partition dominates another one.");
            sentence("Returns true if so.");
            for (Object[] each : new Object[][] {{0, "", "", true, true}, {1, "1", "1", true, true},
                {2, "2", "1,1", true, false}, {6, "4,1,1", "3,3", false, false}, {6, "3,3", "3,2,1", true, false},
                {60, "60", "59,1", true, false}, {60, "2" + ",1".repeat(58), "1" + ",1".repeat(59), true, false},
                {60, "30,30", "30,30", true, true}, {7, "3,3,1", "3,2,2", true, false},
                {8, "3,3,2", "4,1,1,1,1", false, false}}) {
                fresh();
                hold(0, 'a', (Integer) each[0], 0, (String) each[1]);
                hold(9, 'g', (Integer) each[0], 60, (String) each[2]);
                answers(each[3], c -> c.isOver(0, 9));
                answers(each[4], c -> c.isOver(9, 0));
                answers(true, c -> c.isOver(0, 0));
            }
            noSuchSlotForEither('a', (c, a, b) -> c.isOver(a, b));
            oneHoldsNone("Throws `NoSuchElementException` if one of them holds none", 'a', (c, a, b) -> c.isOver(a, b));
            oneUnfit("Throws `UnsupportedOperationException` if one is no partition", PARTITIONS, (c, a, b) -> c.isOver(a, b));
            unlikeN(PARTITIONS, (c, a, b) -> c.isOver(a, b));
        }
    }

    private static final class SplitCalls {
        private static final String NO_SPLIT = "Throws `UnsupportedOperationException` if one is no split";

        static void all() {
            section("Promise 30");
            plain("the slot", "Returns how many blocks a split has.");
            howMany();
            noSuchSlot('s', (c, slot) -> c.blocks(slot));
            holdsNone('k', (c, slot) -> c.blocks(slot));
            unfit("Throws `UnsupportedOperationException` if it is no split", "sk", (c, slot) -> c.blocks(slot));
            section("Promise 31");
            plain("the slot", "the one", "the other one");
            becomes("Lets a slot become the join of two splits, of 's', with the k of the first one.",
                    (c, slot, a, b) -> c.join(slot, a, b));
            joinBlocks();
            refusals((c, slot, a, b) -> c.join(slot, a, b));
            section("Promise 32");
            plain("the slot", "the one", "the other one");
            becomes("Lets a slot become the meet of two splits, of 's', with the k of the first one.",
                    (c, slot, a, b) -> c.meet(slot, a, b));
            meetBlocks();
            refusals((c, slot, a, b) -> c.meet(slot, a, b));
            section("Promise 33");
            plain("the one", "the other one", "Tells whether one split is finer than another one.");
            finer();
            noSuchSlotForEither('s', (c, a, b) -> c.isFiner(a, b));
            oneHoldsNone("Throws `NoSuchElementException` if one of them holds none", 's', (c, a, b) -> c.isFiner(a, b));
            oneUnfit(NO_SPLIT, "sk", (c, a, b) -> c.isFiner(a, b));
            unlikeN("sk", (c, a, b) -> c.isFiner(a, b));
        }

        interface Three {
            Object on(PartitionCabinet c, int slot, int a, int b);
        }

        private static void howMany() {
            sentence("Returns how many.");
            for (Object[] each : new Object[][] {{'s', 0, 0, 0}, {'k', 0, 0, 0}, {'s', 1, 0, 1}, {'s', 25, 0, 1},
                {'k', 25, 25, 25}, {'k', 25, 1, 1}, {'k', 25, 24, 24}}) {
                fresh();
                make(9, (Character) each[0], (Integer) each[1], (Integer) each[2]);
                answers(each[3], c -> c.blocks(9));
            }
            does(c -> c.draw(9, 's', 25, 0, -1));
            answers(25, c -> c.blocks(9));
        }

        /** The slot is a third one, which holds something else or none, or one of both. */
        private static void becomes(String words, Three call) {
            sentence(words);
            for (char one : "sk".toCharArray()) {
                for (char other : "sk".toCharArray()) {
                    for (int slot : new int[] {0, 1, 2, 9}) {
                        fresh();
                        hold(0, one, 4, 2, "0,0,1,1");
                        hold(1, other, 4, 3, other == 'k' ? "0,1,1,2" : "0,1,1,1");
                        make(2, 'v', 20, 0);
                        does(c -> call.on(c, slot, 0, 1));
                        letterIs(slot, 's');
                        check(x.length(slot), 4);
                        make(3, 's', 4, 2);
                        takes(c -> c.compare(slot, 3));
                        make(4, 's', 4, 3);
                        refuses(ARGUMENT, c -> c.compare(slot, 4));
                    }
                }
            }
            fresh();
            make(0, 's', 0, 60);
            make(1, 'k', 0, 0);
            answers(0, c -> call.on(c, 2, 0, 1));
            rowIs(2, "");
            does(c -> c.copy(3, 0));
            takes(c -> c.compare(2, 3));
            answers(0, c -> call.on(c, 1, 1, 0));
            refuses(ARGUMENT, c -> c.compare(1, 0));
        }

        private static void joinBlocks() {
            sentence("Returns how many blocks it has.");
            for (Object[] each : new Object[][] {{0, "", "", 0}, {1, "0", "0", 1}, {2, "0,1", "0,1", 2},
                {2, "0,0", "0,1", 1}, {2, "0,1", "0,0", 1}, {4, "0,0,1,1", "0,1,1,2", 1}, {4, "0,0,1,1", "0,0,1,2", 2},
                {5, "0,1,2,3,4", "0,1,2,3,4", 5}}) {
                fresh();
                hold(0, 's', (Integer) each[0], 0, (String) each[1]);
                hold(1, 's', (Integer) each[0], 0, (String) each[2]);
                answers(each[3], c -> c.join(9, 0, 1));
                answers(each[3], c -> c.blocks(9));
            }
            // one join behind another one
            fresh();
            hold(0, 's', 3, 0, "0,1,0");
            hold(1, 's', 3, 0, "0,1,1");
            hold(2, 's', 3, 0, "0,1,2");
            answers(1, c -> c.join(9, 0, 1));
            answers(3, c -> c.join(9, 2, 2));
            rowIs(9, "0,1,2");
            answers(1, c -> c.join(9, 1, 0));
            answers(2, c -> c.join(9, 1, 2));
            rowIs(9, "0,1,1");
        }

        private static void meetBlocks() {
            sentence("Returns how many blocks it has.");
            for (Object[] each : new Object[][] {{0, "", "", 0}, {1, "0", "0", 1}, {2, "0,0", "0,0", 1},
                {2, "0,0", "0,1", 2}, {2, "0,1", "0,0", 2}, {4, "0,0,1,1", "0,1,1,2", 4}, {4, "0,0,1,1", "0,0,1,2", 3},
                {5, "0,0,0,0,0", "0,0,0,0,0", 1}, {4, "0,0,1,1", "0,1,0,1", 4}}) {
                fresh();
                hold(0, 's', (Integer) each[0], 0, (String) each[1]);
                hold(1, 's', (Integer) each[0], 0, (String) each[2]);
                answers(each[3], c -> c.meet(9, 0, 1));
                answers(each[3], c -> c.blocks(9));
            }
        }

        private static void refusals(Three call) {
            sentence("Throws `IndexOutOfBoundsException` if there is no such slot, for any");
            fill('s');
            takes(c -> call.on(c, 0, 9, 9));
            takes(c -> call.on(c, 9, 0, 0));
            for (int slot : NO_SLOTS) {
                refuses(INDEX, c -> call.on(c, slot, 0, 0));
                refuses(INDEX, c -> call.on(c, 0, slot, 0));
                refuses(INDEX, c -> call.on(c, 0, 0, slot));
            }
            oneHoldsNone("Throws `NoSuchElementException` if one of them holds none", 's', (c, a, b) -> call.on(c, 5, a, b));
            oneUnfit(NO_SPLIT, "sk", (c, a, b) -> call.on(c, 5, a, b));
            unlikeN("sk", (c, a, b) -> call.on(c, 5, a, b));
        }

        private static void finer() {
            sentence("Returns true if so, also if both are the same.");
            for (Object[] each : new Object[][] {{0, "", "", true, true}, {1, "0", "0", true, true},
                {3, "0,1,1", "0,1,1", true, true}, {3, "0,1,2", "0,1,1", true, false}, {3, "0,0,1", "0,1,1", false, false},
                {4, "0,1,2,3", "0,0,0,0", true, false}, {4, "0,1,0,1", "0,1,0,2", false, true},
                {25, "0" + ",0".repeat(24), "0" + ",0".repeat(23) + ",1", false, true},
                {25, "0,1" + ",1".repeat(23), "0" + ",0".repeat(24), true, false}}) {
                fresh();
                hold(0, 's', (Integer) each[0], 0, (String) each[1]);
                hold(1, 's', (Integer) each[0], 60, (String) each[2]);
                answers(each[3], c -> c.isFiner(0, 1));
                answers(each[4], c -> c.isFiner(1, 0));
                answers(true, c -> c.isFiner(0, 0));
            }
        }
    }

    private static final class SubsetCalls {
        private static final String NO_SUBSET = "Throws `UnsupportedOperationException` if it is no subset";

        static void all() {
            section("Promise 34");
            plain("the slot");
            goes();
            comesAndGoes();
            noSuchSlot('u', (c, slot) -> c.door(slot));
            holdsNone('u', (c, slot) -> c.door(slot));
            unfit(NO_SUBSET, "u", (c, slot) -> c.door(slot));
            section("Promise 35");
            plain("the slot");
            ranks();
            signs();
            noSuchSlot('u', (c, slot) -> c.doorRank(slot));
            holdsNone('u', (c, slot) -> c.doorRank(slot));
            unfit(NO_SUBSET, "u", (c, slot) -> c.doorRank(slot));
        }

        private static void goes() {
            sentence("Lets a subset become the next one by the door.");
            for (String[] each : new String[][] {{"4", "0,1", "1,2"}, {"4", "0,3", "0,1"}, {"4", "0,2", "2,3"},
                {"40", "0,39", "0,1"}, {"40", "38,39", "37,39"}, {"40", "0,38", "38,39"}, {"2", "0,1", "0,1"},
                {"1", "0", "0"}, {"2", "1", "0"}, {"40", "39", "0"}, {"40", "38", "39"}, {"5", "", ""}}) {
                fresh();
                hold(9, 'u', Integer.parseInt(each[0]), each[1].isEmpty() ? 0 : each[1].split(",").length, each[1]);
                put("left alone");
                does(c -> c.door(9));
                rowIs(9, each[2]);
                textIs("left alone");
            }
            fresh();
            make(0, 'u', 4, 2);
            make(9, 'u', 5, 1);
            make(5, 'a', 7, 0);
            answers(200, c -> c.door(0));
            answers(100, c -> c.door(9));
            rowIs(0, "1,2");
            rowIs(9, "1");
            rowIs(5, "1,1,1,1,1,1,1");
        }

        private static void comesAndGoes() {
            sentence("Returns 100 times the thing that comes, plus the one that goes; -1 if nothing changes.");
            for (Object[] each : new Object[][] {{2, "0", 100}, {2, "1", 1}, {40, "38", 3938}, {40, "39", 39},
                {4, "0,1", 200}, {4, "1,2", 1}, {4, "0,3", 103}, {40, "0,39", 139}, {40, "38,39", 3738}, {2, "0,1", -1},
                {0, "", -1}, {40, "", -1}, {1, "0", -1}}) {
                String row = (String) each[1];
                fresh();
                hold(9, 'u', (Integer) each[0], row.isEmpty() ? 0 : row.split(",").length, row);
                answers(each[2], c -> c.door(9));
            }
            fresh();
            make(9, 'u', 40, 40);
            answers(-1, c -> c.door(9));
        }

        private static void ranks() {
            sentence("Puts how many subsets of its family are ahead of one by the door, from the first one of that row, into the"
                    + " text.");
            for (String[] each : new String[][] {{"0", "", "0"}, {"40", "", "0"}, {"1", "0", "0"}, {"40", "0", "0"},
                {"40", "39", "39"}, {"4", "0,1", "0"}, {"4", "0,3", "5"}, {"40", "0,39", "779"}, {"40", "38,39", "741"},
                {"5", "0,1,2,3,4", "0"}}) {
                fresh();
                hold(9, 'u', Integer.parseInt(each[0]), each[1].isEmpty() ? 0 : each[1].split(",").length, each[1]);
                put("7".repeat(200));
                does(c -> c.doorRank(9));
                textIs(each[2]);
            }
            fresh();
            hold(9, 'u', 40, 20, "0,1,2,3,4,5,6,7,8,9,10,11,12,13,14,15,16,17,18,39");
            does(c -> c.doorRank(9));
            textIs("137846528819");
            answers(1939, c -> c.door(9));
            does(c -> c.doorRank(9));
            textIs("0");
        }

        private static void signs() {
            sentence("Returns how many signs the text has then.");
            for (Object[] each : new Object[][] {{40, "9", 1}, {40, "10", 2}, {40, "39", 2}, {40, "", 1}, {40, "0,39", 3},
                {40, "0,1", 1}}) {
                String row = (String) each[1];
                fresh();
                hold(9, 'u', (Integer) each[0], row.isEmpty() ? 0 : row.split(",").length, row);
                answers(each[2], c -> c.doorRank(9));
            }
            fresh();
            hold(9, 'u', 40, 20, "0,1,2,3,4,5,6,7,8,9,10,11,12,13,14,15,16,17,18,39");
            answers(12, c -> c.doorRank(9));
        }
    }
}
