import java.io.IOException;
import java.math.BigInteger;

/** The boundary cases of promises 1 to 9 and 14 to 16: making figures and telling what they are. */
public final class BoundariesOfFigureCalls extends BoundaryBench {

    public static void main(String[] args) throws IOException {
        readDocument();
        NewAndCount.all();
        Becoming.all();
        Telling.all();
        finish("BoundariesOfFigureCalls");
    }

    private static final class NewAndCount {

        static void all() {
            section("Promise 1");
            newObject();
            section("Promise 2");
            plain("the letter of the family", "its first number", "its second number");
            counts();
            countSigns();
            noSuchFamily((c, f, n, k) -> c.count(f, n, k));
        }

        private static void newObject() {
            sentence("Creates a cabinet whose slots hold none, with an empty text.");
            check(x.held(), 0);
            for (int slot = 0; slot < 10; slot++) {
                int empty = slot;
                refuses(NONE, c -> c.length(empty));
            }
            refuses(ARGUMENT, c -> c.signAt(0));
            wouldAnswer(0, c -> c.erase());
            refuses(NONE, PartitionCabinet::undo);
            check(x.checksum(), 7L * 31 * 31 * 31 * 31 * 31 * 31 * 31 * 31 * 31 * 31);
            check(x.isSound(), true);
            make(9, 'a', 2, 0);
            put("here");
            PartitionCabinet other = new PartitionCabinet();
            check(other.held(), 0);
            check(textOf(other), "");
        }

        /** None, one, and the most that there are in each family. */
        private static void counts() {
            sentence("Puts the count of a family into the text.");
            Object[][] told = {{'a', 0, 0, "1"}, {'a', 60, 60, "966467"}, {'l', 1, 0, "0"}, {'l', 60, 60, "966467"},
                {'g', 1, 0, "0"}, {'g', 60, 60, "966467"}, {'d', 0, 0, "1"}, {'d', 60, 0, "10880"}, {'o', 0, 0, "1"},
                {'o', 60, 0, "10880"}, {'s', 0, 0, "1"}, {'s', 25, 0, "4638590332229999353"}, {'k', 0, 1, "0"},
                {'k', 25, 10, "1203163392175387500"}, {'u', 0, 1, "0"}, {'u', 40, 20, "137846528820"}, {'b', 0, 0, "1"},
                {'b', 20, 0, "6564120420"}, {'v', 0, 0, "1"}, {'v', 20, 0, "6564120420"}, {'t', 1, 0, "1"},
                {'t', 20, 0, "262144000000000000000000"}, {'c', 0, 1, "0"}, {'c', 60, 30, "59132290782430712"},
                {'c', 60, 31, "59132290782430712"}};
            for (Object[] each : told) {
                fresh();
                put("~".repeat(200));
                does(c -> c.count((Character) each[0], (Integer) each[1], (Integer) each[2]));
                textIs((String) each[3]);
            }
        }

        private static void countSigns() {
            sentence("Returns how many signs the text has then.");
            wouldAnswer(1, c -> c.count('l', 1, 0));
            wouldAnswer(1, c -> c.count('a', 0, 0));
            wouldAnswer(1, c -> c.count('u', 9, 1));
            wouldAnswer(2, c -> c.count('u', 10, 1));
            wouldAnswer(2, c -> c.count('u', 5, 2));
            wouldAnswer(19, c -> c.count('s', 25, 0));
            wouldAnswer(24, c -> c.count('t', 20, 0));
            put("9".repeat(200));
            wouldAnswer(1, c -> c.count('c', 5, 0));
        }
    }

    private static final class Becoming {

        static void all() {
            section("Promise 3");
            familyWords();
            firsts();
            makeLengths();
            noSuchSlot('a', (c, slot) -> c.make(slot, 'a', 5, 0));
            noSuchFamily((c, f, n, k) -> c.make(4, f, n, k));
            hasNone((c, f, n, k) -> c.make(4, f, n, k));
            section("Promise 4");
            familyWords();
            unranks();
            unrankLengths();
            noSuchSlot('a', (c, slot) -> c.unrank(slot, 'a', 5, 0));
            noNumber();
            noSuchFamily((c, f, n, k) -> c.unrank(4, f, n, k));
            noSuchRank();
            section("Promise 5");
            familyWords();
            plain("the number");
            draws();
            drawLengths();
            noSuchSlot('a', (c, slot) -> c.draw(slot, 'a', 5, 0, 3));
            noSuchFamily((c, f, n, k) -> c.draw(4, f, n, k, -1));
            hasNone((c, f, n, k) -> c.draw(4, f, n, k, GREATEST));
            section("Promise 6");
            familyWords();
            reads();
            readAnswers();
            noSuchSlot('a', (c, slot) -> c.read(slot, 'a', 5, 0));
            noSuchFamily((c, f, n, k) -> c.read(4, f, n, k));
            section("Promise 7");
            plain("the slot", "the other one");
            copies();
            copyLengths();
            noSuchSlotForEither('a', (c, a, b) -> c.copy(a, b));
            copyOfNone();
        }

        private static void familyWords() {
            plain("the slot", "the letter of the family", "its first number", "its second number");
        }

        private static void firsts() {
            sentence("Lets a slot become the first figure of a family.");
            Object[][] told = {{'a', 0, 0, ""}, {'a', 1, 0, "1"}, {'a', 4, 0, "1,1,1,1"}, {'l', 4, 4, "1,1,1,1"},
                {'l', 4, 3, "2,1,1"}, {'l', 4, 1, "4"}, {'l', 0, 0, ""}, {'l', 60, 1, "60"}, {'g', 4, 1, "1,1,1,1"},
                {'g', 0, 0, ""}, {'d', 0, 0, ""}, {'d', 1, 0, "1"}, {'d', 2, 0, "2"}, {'d', 10, 0, "4,3,2,1"},
                {'d', 60, 0, "11,10,9,8,7,5,4,3,2,1"}, {'o', 4, 0, "1,1,1,1"}, {'o', 0, 0, ""}, {'s', 0, 0, ""},
                {'s', 1, 0, "0"}, {'s', 3, 0, "0,0,0"}, {'k', 0, 0, ""}, {'k', 3, 1, "0,0,0"}, {'k', 3, 2, "0,0,1"},
                {'k', 3, 3, "0,1,2"}, {'u', 0, 0, ""}, {'u', 40, 0, ""}, {'u', 40, 1, "0"}, {'u', 3, 3, "0,1,2"},
                {'b', 0, 0, ""}, {'b', 1, 0, "0,1"}, {'b', 3, 0, "0,0,0,1,1,1"}, {'v', 0, 0, "0"}, {'v', 1, 0, "1,0,0"},
                {'v', 3, 0, "1,0,1,0,1,0,0"}, {'t', 1, 0, ""}, {'t', 2, 0, ""}, {'t', 3, 0, "0"},
                {'t', 20, 0, "0" + ",0".repeat(17)}, {'c', 0, 0, ""}, {'c', 5, 1, "5"}, {'c', 5, 3, "1,1,3"},
                {'c', 5, 5, "1,1,1,1,1"}, {'c', 60, 2, "1,59"}};
            for (Object[] each : told) {
                fresh();
                put("left alone");
                make(9, 'u', 7, 3);
                does(c -> c.make(9, (Character) each[0], (Integer) each[1], (Integer) each[2]));
                rowIs(9, (String) each[3]);
                letterIs(9, (Character) each[0]);
                wouldAnswer(1, c -> c.rank(9));
                check(x.held(), 1);
                textIs("left alone");
            }
        }

        private static void makeLengths() {
            sentence("Returns how many numbers its row has.");
            lengthsAre((c, f, n, k) -> c.make(9, f, n, k));
        }

        /** Rows without a number, with one, and the longest ones, of the first figure. */
        private static void lengthsAre(FamilyCall call) {
            Object[][] told = {{'a', 0, 0, 0}, {'a', 1, 0, 1}, {'a', 60, 0, 60}, {'l', 0, 0, 0}, {'l', 60, 60, 60},
                {'l', 60, 1, 1}, {'g', 60, 1, 60}, {'d', 0, 0, 0}, {'d', 2, 0, 1}, {'d', 55, 0, 10}, {'o', 60, 0, 60},
                {'s', 0, 0, 0}, {'s', 25, 0, 25}, {'k', 25, 25, 25}, {'k', 0, 0, 0}, {'u', 40, 0, 0}, {'u', 40, 1, 1},
                {'u', 40, 40, 40}, {'b', 0, 0, 0}, {'b', 20, 0, 40}, {'v', 0, 0, 1}, {'v', 20, 0, 41}, {'t', 1, 0, 0},
                {'t', 2, 0, 0}, {'t', 3, 0, 1}, {'t', 20, 0, 18}, {'c', 0, 0, 0}, {'c', 60, 1, 1}, {'c', 60, 60, 60}};
            for (Object[] each : told) {
                fresh();
                put("0");
                answers(each[3], c -> call.on(c, (Character) each[0], (Integer) each[1], (Integer) each[2]));
                check(x.length(9), each[3]);
            }
        }

        private static void hasNone(FamilyCall call) {
            sentence("Throws `NoSuchElementException` if the family has none");
            put("0");
            make(4, 'a', 3, 0);
            noneOrOne(call);
        }

        /** Families with none, each beside one that has one. */
        private static void noneOrOne(FamilyCall call) {
            Object[][] none = {{'l', 1, 0}, {'l', 60, 0}, {'g', 1, 0}, {'g', 60, 0}, {'k', 0, 1}, {'k', 1, 0}, {'k', 3, 4},
                {'k', 25, 26}, {'k', 25, 60}, {'u', 0, 1}, {'u', 3, 4}, {'u', 40, 41}, {'u', 40, 60}, {'c', 0, 1},
                {'c', 1, 0}, {'c', 3, 4}, {'c', 59, 60}, {'c', 60, 0}};
            for (Object[] each : none) {
                refuses(NONE, c -> call.on(c, (Character) each[0], (Integer) each[1], (Integer) each[2]));
            }
            Object[][] some = {{'l', 1, 1}, {'l', 0, 0}, {'l', 60, 1}, {'g', 1, 1}, {'g', 0, 0}, {'k', 0, 0}, {'k', 1, 1},
                {'k', 3, 3}, {'k', 25, 25}, {'u', 0, 0}, {'u', 1, 0}, {'u', 3, 3}, {'u', 40, 40}, {'c', 0, 0}, {'c', 1, 1},
                {'c', 3, 3}, {'c', 60, 60}, {'c', 60, 1}, {'a', 0, 0}, {'d', 1, 0}, {'d', 2, 0}, {'o', 2, 0}, {'s', 0, 0},
                {'b', 0, 0}, {'v', 0, 0}, {'t', 1, 0}, {'t', 2, 0}};
            for (Object[] each : some) {
                takes(c -> call.on(c, (Character) each[0], (Integer) each[1], (Integer) each[2]));
            }
        }

        private static void unranks() {
            sentence("Reads the text for a rank; a slot becomes the figure of a family with it.");
            Object[][] told = {{"0", 'a', 5, "1,1,1,1,1"}, {"6", 'a', 5, "5"}, {"+6", 'a', 5, "5"}, {"3", 'a', 5, "3,1,1"},
                {"-0", 'a', 5, "1,1,1,1,1"}, {"+0", 'a', 5, "1,1,1,1,1"}, {"-" + "0".repeat(199), 'a', 5, "1,1,1,1,1"},
                {"0".repeat(199) + "6", 'a', 5, "5"}, {"+" + "0".repeat(198) + "6", 'a', 5, "5"}, {"0", 'a', 0, ""},
                {"0", 't', 1, ""}, {"0", 't', 2, ""}, {"-0", 't', 2, ""}, {"-" + "0".repeat(199), 't', 4, "0,0"},
                {"+15", 't', 4, "3,3"}, {"0000000015", 't', 4, "3,3"}, {"0", 'v', 0, "0"},
                {"262143999999999999999999", 't', 20, "19" + ",19".repeat(17)},
                {"131072000000000000000000", 't', 20, "10" + ",0".repeat(17)}, {"9223372036854775808", 't', 20, null},
                {"966466", 'a', 60, "60"}, {"10879", 'd', 60, "60"}, {"4638590332229999352", 's', 25, null}};
            for (Object[] each : told) {
                fresh();
                put((String) each[0]);
                does(c -> c.unrank(9, (Character) each[1], (Integer) each[2], 7));
                textIs("");
                if (each[3] != null) {
                    rowIs(9, (String) each[3]);
                } else {
                    does(c -> c.rank(9));
                    textIs((String) each[0]);
                }
            }
        }

        private static void unrankLengths() {
            sentence("Returns how many numbers its row has.");
            lengthsAre((c, f, n, k) -> c.unrank(9, f, n, k));
            fresh();
            put("966466");
            answers(1, c -> c.unrank(9, 'a', 60, 0));
        }

        private static void noNumber() {
            sentence("Throws `NumberFormatException` if the text is not perhaps one '+' or '-', and one digit or more");
            String[] none = {"", "+", "-", "++1", "--1", "+-1", "-+1", "1+", "1-", "1 ", " 1", "+ 1", "1,1", ",1", "1,",
                "/", ":", "/1", "1/", ":1", "1:", "a", "1a", "0x1", "1.0", "1e3", "9".repeat(199) + "x",
                "x" + "9".repeat(199), "+".repeat(200), "~", "1_0", "*1", "'1"};
            for (String signs : none) {
                fresh();
                make(9, 'a', 3, 0);
                put(signs);
                refuses(NUMBER, c -> c.unrank(9, 'a', 5, 0));
                refuses(NUMBER, c -> c.unrank(8, 't', 20, 0));
            }
            for (String signs : new String[] {"0", "1", "9", "+0", "+9", "-0", "09", "10", "+" + "0".repeat(199),
                "0".repeat(200)}) {
                fresh();
                put(signs);
                takes(c -> c.unrank(9, 'a', 6, 0));
                takes(c -> c.unrank(8, 't', 20, 0));
            }
        }

        private static void noSuchRank() {
            sentence("Throws `NoSuchElementException` if the family has none with this rank");
            fresh();
            put("0");
            noneOrOne((c, f, n, k) -> c.unrank(4, f, n, k));
            Object[][] last = {{'a', 5, "7"}, {'a', 0, "1"}, {'a', 60, "966467"}, {'l', 60, "1"}, {'g', 60, "1"},
                {'d', 60, "10880"}, {'o', 60, "10880"}, {'s', 0, "1"}, {'s', 25, "4638590332229999353"}, {'k', 25, "1"},
                {'u', 40, "40"}, {'b', 0, "1"}, {'b', 20, "6564120420"}, {'v', 0, "1"}, {'v', 20, "6564120420"},
                {'t', 1, "1"}, {'t', 2, "1"}, {'t', 3, "3"}, {'t', 20, "262144000000000000000000"}, {'c', 60, "1"}};
            for (Object[] each : last) {
                BigInteger count = new BigInteger((String) each[2]);
                BigInteger round = BigInteger.ONE.shiftLeft(64);
                for (String none : new String[] {count.toString(), "+" + count, count.add(BigInteger.ONE).toString(), "-1", "-00001",
                    "-" + count, count.add(round).toString(), round.shiftLeft(64).toString(), "9".repeat(200), "-" + "9".repeat(199),
                    "1" + "0".repeat(199)}) {
                    fresh();
                    put(none);
                    refuses(NONE, c -> c.unrank(4, (Character) each[0], (Integer) each[1], 1));
                }
                fresh();
                put(count.subtract(BigInteger.ONE).toString());
                takes(c -> c.unrank(4, (Character) each[0], (Integer) each[1], 1));
            }
            // so many times the numbers that an int and a long have, and a few more
            for (int times = 1; times <= 40; times++) {
                for (int bits : new int[] {31, 32, 63, 64}) {
                    String none = BigInteger.valueOf(times).shiftLeft(bits).add(BigInteger.TWO).toString();
                    fresh();
                    put(none);
                    refuses(NONE, c -> c.unrank(4, 'a', 5, 0));
                    refuses(NONE, c -> c.unrank(4, 't', 3, 0));
                    if (none.length() > 18) {
                        refuses(NONE, c -> c.unrank(4, 's', 25, 0));
                        refuses(NONE, c -> c.unrank(4, 'c', 60, 30));
                    }
                }
            }
            for (String none : new String[] {"2147483648", "4294967296", "9223372036854775807", "9223372036854775808",
                "18446744073709551616", "18446744073709551619", "-9223372036854775808", "-18446744073709551613"}) {
                fresh();
                put(none);
                refuses(NONE, c -> c.unrank(4, 'a', 5, 0));
                refuses(NONE, c -> c.unrank(4, 't', 5, 0));
            }
        }

        private static void draws() {
            sentence("Lets a slot become the figure of a family whose rank is the remainder of a number by the count, from 0 on,"
                    + " also for one below 0.");
            Object[][] told = {{'a', 5, 0L, "0"}, {'a', 5, 6L, "6"}, {'a', 5, 7L, "0"}, {'a', 5, 8L, "1"},
                {'a', 5, -1L, "6"}, {'a', 5, -6L, "1"}, {'a', 5, -7L, "0"}, {'a', 5, -8L, "6"}, {'a', 0, 0L, "0"},
                {'a', 0, -5L, "0"}, {'t', 1, -1L, "0"}, {'t', 2, Long.MIN_VALUE, "0"}, {'v', 0, Long.MAX_VALUE, "0"},
                {'s', 25, 4638590332229999352L, "4638590332229999352"}, {'s', 25, 4638590332229999353L, "0"},
                {'s', 25, -4638590332229999353L, "0"}, {'s', 25, -1L, "4638590332229999352"}};
            for (Object[] each : told) {
                drawnIs((Character) each[0], (Integer) each[1], (Long) each[2], (String) each[3]);
            }
            for (char family : FAMILIES.toCharArray()) {
                for (int n : new int[] {least(family) + 1, 3, greatest(family)}) {
                    BigInteger count = new BigInteger(countOf(family, n, 2));
                    for (long number : new long[] {0, 1, -1, 1000003, -1000003, Integer.MAX_VALUE, 1L << 32,
                        Long.MAX_VALUE, Long.MIN_VALUE}) {
                        if (count.signum() > 0) {
                            drawnIs(family, n, number, BigInteger.valueOf(number).mod(count).toString());
                        }
                    }
                }
            }
        }

        private static void drawnIs(char family, int n, long number, String rank) {
            fresh();
            put("left alone");
            does(c -> c.draw(9, family, n, 2, number));
            textIs("left alone");
            does(c -> c.rank(9));
            textIs(rank);
        }

        private static void drawLengths() {
            sentence("Returns how many numbers its row has.");
            lengthsAre((c, f, n, k) -> c.draw(9, f, n, k, 0));
            answers(1, c -> c.draw(9, 'a', 60, 0, -1));
            answers(60, c -> c.draw(9, 'a', 60, 0, 966467));
            answers(2, c -> c.draw(9, 'a', 60, 0, -2));
        }

        private static void reads() {
            sentence("Reads the text for a row; a slot becomes that figure of a family, at a fault nothing becomes anything.");
            isRow('a', 0, 60, "");
            isRow('t', 1, 0, "");
            isRow('t', 2, 60, "");
            isRow('v', 0, 0, "0");
            isRow('a', 60, 0, "1" + ",1".repeat(59));
            isRow('b', 20, 0, "0" + ",0".repeat(19) + ",1".repeat(20));
            isRow('v', 20, 0, "1" + ",1".repeat(19) + ",0".repeat(21));
            isRow('t', 20, 0, "19" + ",0".repeat(16) + ",19");
            isRow('s', 25, 0, "0" + ",0".repeat(23) + ",1");
            isRow('k', 25, 2, "0" + ",0".repeat(23) + ",1");
            isRow('u', 40, 3, "0,1,39");
            isRow('c', 60, 3, "58,1,1");
            isRow('l', 60, 3, "58,1,1");
            isRow('g', 60, 20, "20,20,20");
            isRow('d', 60, 0, "31,29");
            isRow('o', 60, 0, "31,29");
            faultAt(0, 'a', 5, 0, "");
            faultAt(1, 'a', 5, 0, "4");
            faultAt(199, 'a', 5, 0, "0".repeat(198) + "5x");
            fresh();
            put("4");
            answers(-2, c -> c.read(0, 'a', 5, 0));
            refuses(NONE, c -> c.length(0));
            refuses(NONE, PartitionCabinet::undo);
            textIs("");
        }

        private static void readAnswers() {
            sentence("Returns how many numbers its row has, or -1 less the fault.");
            Object[][] told = {{'a', 0, "", 0}, {'a', 5, "", -1}, {'a', 5, "x", -1}, {'a', 5, "5", 1}, {'a', 5, "4", -2},
                {'a', 5, "1,1,1,1,1", 5}, {'a', 60, "1" + ",1".repeat(59), 60}, {'a', 60, "1" + ",1".repeat(58), -118},
                {'a', 60, "1" + ",1".repeat(60), -120}, {'s', 25, "0".repeat(200), -201}, {'a', 5, "0".repeat(199) + "5", 1},
                {'a', 5, "0".repeat(198) + "5x", -200}, {'v', 0, "0", 1}, {'v', 0, "1", -1},
                {'v', 20, "1" + ",1".repeat(19) + ",0".repeat(21), 41}};
            for (Object[] each : told) {
                fresh();
                put((String) each[2]);
                answers(each[3], c -> c.read(9, (Character) each[0], (Integer) each[1], 0));
            }
        }

        private static void copies() {
            sentence("Lets a slot become what another one, or the same, holds.");
            put("left alone");
            make(0, 'u', 9, 3);
            make(9, 's', 25, 0);
            does(c -> c.copy(9, 0));
            rowIs(9, "0,1,2");
            letterIs(9, 'u');
            answers(0, c -> c.compare(0, 9));
            does(c -> c.copy(0, 0));
            rowIs(0, "0,1,2");
            does(c -> c.next(9));
            rowIs(0, "0,1,2");
            rowIs(9, "0,1,3");
            answers(2, c -> c.held());
            textIs("left alone");
            make(1, 'a', 0, 0);
            does(c -> c.copy(2, 1));
            rowIs(2, "");
            letterIs(2, 'a');
        }

        private static void copyLengths() {
            sentence("Returns how many numbers its row has.");
            make(0, 'a', 0, 0);
            make(1, 'a', 1, 0);
            make(2, 'a', 60, 0);
            answers(0, c -> c.copy(3, 0));
            answers(0, c -> c.copy(2, 0));
            answers(1, c -> c.copy(4, 1));
            answers(1, c -> c.copy(1, 1));
            does(PartitionCabinet::undo);
            does(PartitionCabinet::undo);
            does(PartitionCabinet::undo);
            answers(60, c -> c.copy(9, 2));
        }

        private static void copyOfNone() {
            sentence("Throws `NoSuchElementException` if that other one holds none");
            refuses(NONE, c -> c.copy(0, 0));
            refuses(NONE, c -> c.copy(0, 9));
            make(0, 'a', 3, 0);
            refuses(NONE, c -> c.copy(0, 9));
            refuses(NONE, c -> c.copy(9, 9));
            takes(c -> c.copy(9, 0));
            does(c -> c.copy(9, 0));
            takes(c -> c.copy(1, 9));
            does(PartitionCabinet::undo);
            refuses(NONE, c -> c.copy(1, 9));
        }
    }

    private static final class Telling {

        static void all() {
            section("Promise 8");
            plain("the slot");
            tells();
            tellSigns();
            noSuchSlot('a', (c, slot) -> c.tell(slot));
            holdsNone('a', (c, slot) -> c.tell(slot));
            section("Promise 9");
            plain("the slot");
            ranks();
            rankSigns();
            noSuchSlot('a', (c, slot) -> c.rank(slot));
            holdsNone('a', (c, slot) -> c.rank(slot));
            section("Promise 14");
            plain("the slot", "Returns the letter of a figure's family.");
            letters();
            noSuchSlot('a', (c, slot) -> c.family(slot));
            holdsNone('a', (c, slot) -> c.family(slot));
            section("Promise 15");
            plain("the slot", "Returns how many.");
            lengths();
            noSuchSlot('a', (c, slot) -> c.length(slot));
            holdsNone('a', (c, slot) -> c.length(slot));
            section("Promise 16");
            plain("the slot", "Returns the number.", "Returns a number of the row of a figure.");
            places();
            noSuchSlot('a', (c, slot) -> c.at(slot, 0));
            noSuchPlace();
        }

        private static void tells() {
            sentence("Puts the row of a figure into the text.");
            Object[][] told = {{'a', 0, 0, ""}, {'v', 0, 0, "0"}, {'a', 9, 0, "9"}, {'a', 10, 0, "10"}, {'a', 60, 0, "60"},
                {'a', 19, 0, "10,9"}, {'a', 3, 0, "2,1"}, {'u', 40, 4, "0,9,10,39"}, {'t', 4, 0, "0,0"},
                {'a', 60, 0, "20,20,20"}};
            for (Object[] each : told) {
                fresh();
                hold(9, (Character) each[0], (Integer) each[1], (Integer) each[2], (String) each[3]);
                put("~".repeat(200));
                does(c -> c.tell(9));
                textIs((String) each[3]);
            }
        }

        private static void tellSigns() {
            sentence("Returns how many signs the text has then.");
            put("9".repeat(200));
            make(0, 'a', 0, 0);
            make(1, 'a', 60, 0);
            make(2, 'u', 40, 40);
            make(3, 'v', 0, 0);
            make(4, 'v', 20, 0);
            wouldAnswer(0, c -> c.tell(0));
            wouldAnswer(119, c -> c.tell(1));
            wouldAnswer(109, c -> c.tell(2));
            wouldAnswer(1, c -> c.tell(3));
            wouldAnswer(81, c -> c.tell(4));
        }

        private static void ranks() {
            sentence("Puts the rank of a figure into the text.");
            Object[][] told = {{'a', 0, ""}, {'a', 5, "5"}, {'d', 6, "3,2,1"}, {'t', 1, ""}, {'t', 2, ""}, {'v', 0, "0"},
                {'b', 3, "0,1,0,1,0,1"}, {'s', 4, "0,0,0,0"}, {'t', 4, "3,3"}, {'o', 6, "5,1"}};
            String[] due = {"0", "6", "0", "0", "0", "0", "4", "0", "15", "3"};
            for (int i = 0; i < due.length; i++) {
                Object[] each = told[i];
                fresh();
                hold(9, (Character) each[0], (Integer) each[1], 0, (String) each[2]);
                put("7".repeat(200));
                does(c -> c.rank(9));
                textIs(due[i]);
            }
        }

        private static void rankSigns() {
            sentence("Returns how many signs the text has then.");
            make(0, 'u', 11, 1);
            wouldAnswer(1, c -> c.rank(0));
            does(c -> c.skip(0, 9));
            wouldAnswer(1, c -> c.rank(0));
            does(c -> c.skip(0, 1));
            wouldAnswer(2, c -> c.rank(0));
            does(c -> c.draw(0, 's', 25, 0, -1));
            wouldAnswer(19, c -> c.rank(0));
            does(c -> c.draw(0, 't', 20, 0, -1));
            wouldAnswer(24, c -> c.rank(0));
        }

        private static void letters() {
            sentence("Returns the letter.");
            for (char family : FAMILIES.toCharArray()) {
                fresh();
                make(0, family, least(family), 0);
                answers(family, c -> c.family(0));
                does(c -> c.draw(9, family, greatest(family), 1, -1));
                answers(family, c -> c.family(9));
            }
        }

        private static void lengths() {
            sentence("Returns how many numbers the row of a figure has.");
            Object[][] told = {{'a', 0, 0, 0}, {'a', 1, 0, 1}, {'a', 60, 0, 60}, {'v', 0, 0, 1}, {'v', 20, 0, 41},
                {'b', 20, 0, 40}, {'t', 1, 0, 0}, {'t', 2, 0, 0}, {'t', 3, 0, 1}, {'t', 20, 0, 18}, {'u', 40, 0, 0},
                {'u', 40, 40, 40}, {'s', 25, 0, 25}, {'c', 60, 60, 60}, {'c', 60, 1, 1}};
            for (Object[] each : told) {
                fresh();
                make(9, (Character) each[0], (Integer) each[1], (Integer) each[2]);
                answers(each[3], c -> c.length(9));
            }
        }

        private static void places() {
            sentence("its place, from 0");
            hold(0, 'u', 40, 3, "5,17,39");
            answers(5, c -> c.at(0, 0));
            answers(17, c -> c.at(0, 1));
            answers(39, c -> c.at(0, 2));
            refuses(NONE, c -> c.at(0, -1));
            make(1, 'a', 60, 0);
            answers(1, c -> c.at(1, 59));
            refuses(NONE, c -> c.at(1, 60));
        }

        private static void noSuchPlace() {
            sentence("Throws `NoSuchElementException` if that slot holds none, or its row has no such place");
            for (int slot = 0; slot < 10; slot++) {
                int empty = slot;
                refuses(NONE, c -> c.at(empty, 0));
            }
            for (Object[] each : new Object[][] {{'a', 0, 0}, {'v', 0, 1}, {'a', 1, 1}, {'a', 60, 60}, {'t', 1, 0},
                {'t', 2, 0}, {'t', 3, 1}, {'v', 20, 41}}) {
                int length = (Integer) each[2];
                fresh();
                make(9, (Character) each[0], (Integer) each[1], 0);
                for (int place : new int[] {-1, length, length + 1, LEAST, GREATEST}) {
                    refuses(NONE, c -> c.at(9, place));
                }
                if (length > 0) {
                    takes(c -> c.at(9, 0));
                    takes(c -> c.at(9, length - 1));
                }
            }
        }
    }
}
