import java.io.IOException;
import java.math.BigInteger;

/** The boundary cases of promises 10 to 13 and 17 to 20: moving, comparing, undo, and the text. */
public final class BoundariesOfMovingCalls extends BoundaryBench {

    public static void main(String[] args) throws IOException {
        readDocument();
        Moving.all();
        Comparing.all();
        TextCalls.all();
        finish("BoundariesOfMovingCalls");
    }

    private static final class Moving {

        static void all() {
            section("Promise 10");
            plain("the slot");
            behind();
            falseAtTheLast();
            noSuchSlot('a', (c, slot) -> c.next(slot));
            holdsNone('a', (c, slot) -> c.next(slot));
            section("Promise 11");
            plain("the slot");
            aheadOf();
            falseAtTheFirst();
            noSuchSlot('a', (c, slot) -> c.previous(slot));
            holdsNone('a', (c, slot) -> c.previous(slot));
            section("Promise 12");
            plain("the slot");
            skips();
            skipsBack();
            firstNumbers();
            noSuchSlot('a', (c, slot) -> c.skip(slot, -1));
            holdsNone('a', (c, slot) -> c.skip(slot, 0));
            section("Promise 17");
            undoes();
            slots();
            noneKept();
        }

        /** From the first one to the last one, and to the first one again. */
        private static void behind() {
            sentence("Lets a slot become the figure behind its own.");
            Object[][] told = {{'a', 4, 0, "1,1,1,1 2,1,1 2,2 3,1 4 1,1,1,1"}, {'l', 4, 2, "2,2 3,1 4 2,2"},
                {'g', 4, 2, "1,1,1,1 2,1,1 2,2 1,1,1,1"}, {'d', 6, 0, "3,2,1 4,2 5,1 6 3,2,1"},
                {'o', 6, 0, "1,1,1,1,1,1 3,1,1,1 3,3 5,1 1,1,1,1,1,1"}, {'s', 3, 0, "0,0,0 0,0,1 0,1,0 0,1,1 0,1,2 0,0,0"},
                {'k', 3, 2, "0,0,1 0,1,0 0,1,1 0,0,1"}, {'u', 4, 2, "0,1 0,2 0,3 1,2 1,3 2,3 0,1"},
                {'u', 3, 3, "0,1,2 0,1,2"}, {'b', 2, 0, "0,0,1,1 0,1,0,1 0,0,1,1"},
                {'v', 2, 0, "1,0,1,0,0 1,1,0,0,0 1,0,1,0,0"}, {'v', 0, 0, "0 0"}, {'t', 3, 0, "0 1 2 0"},
                {'c', 4, 2, "1,3 2,2 3,1 1,3"}, {'c', 4, 1, "4 4"}};
            for (Object[] each : told) {
                String[] rows = ((String) each[3]).split(" ");
                fresh();
                make(9, (Character) each[0], (Integer) each[1], (Integer) each[2]);
                for (int i = 0; i < rows.length; i++) {
                    rowIs(9, rows[i]);
                    does(c -> c.next(9));
                }
            }
            comesBehind('t', 20, "19" + ",19".repeat(17), "0" + ",0".repeat(17));
            comesBehind('t', 20, "3" + ",19".repeat(17), "4" + ",0".repeat(17));
            comesBehind('t', 20, "0" + ",0".repeat(16) + ",19", "0" + ",0".repeat(15) + ",1,0");
            comesBehind('a', 60, "60", "1" + ",1".repeat(59));
            comesBehind('a', 60, "59,1", "60");
        }

        private static void comesBehind(char family, int n, String one, String other) {
            fresh();
            hold(9, family, n, 0, one);
            does(c -> c.next(9));
            rowIs(9, other);
            does(c -> c.previous(9));
            rowIs(9, one);
        }

        private static void falseAtTheLast() {
            sentence("Returns false if it was the last one.");
            for (char family : FAMILIES.toCharArray()) {
                for (int n : new int[] {least(family), least(family) + 1, 5, greatest(family)}) {
                    for (int k : new int[] {0, 1, 2, n}) {
                        BigInteger count = new BigInteger(countOf(family, n, k));
                        if (count.signum() > 0) {
                            fresh();
                            make(9, family, n, k);
                            wouldAnswer(count.compareTo(BigInteger.ONE) > 0, c -> c.next(9));
                            does(c -> c.draw(9, family, n, k, -1));
                            wouldAnswer(false, c -> c.next(9));
                            does(c -> c.draw(9, family, n, k, -2));
                            wouldAnswer(count.compareTo(BigInteger.ONE) > 0, c -> c.next(9));
                        }
                    }
                }
            }
        }

        private static void aheadOf() {
            sentence("Lets a slot become the figure ahead of its own.");
            Object[][] told = {{'a', 4, 0, "1,1,1,1 4 3,1 2,2 2,1,1 1,1,1,1 4"},
                {'s', 3, 0, "0,0,0 0,1,2 0,1,1 0,1,0 0,0,1 0,0,0 0,1,2"}, {'u', 3, 3, "0,1,2 0,1,2"},
                {'b', 2, 0, "0,0,1,1 0,1,0,1 0,0,1,1"}, {'v', 0, 0, "0 0"}, {'t', 3, 0, "0 2 1 0 2"}, {'c', 4, 1, "4 4"},
                {'t', 4, 0, "0,0 3,3 3,2 3,1 3,0 2,3"}};
            for (Object[] each : told) {
                String[] rows = ((String) each[3]).split(" ");
                fresh();
                make(9, (Character) each[0], (Integer) each[1], (Integer) each[2]);
                for (int i = 0; i < rows.length; i++) {
                    rowIs(9, rows[i]);
                    does(c -> c.previous(9));
                }
            }
        }

        private static void falseAtTheFirst() {
            sentence("Returns false if it was the first one.");
            for (char family : FAMILIES.toCharArray()) {
                for (int n : new int[] {least(family), least(family) + 1, 5, greatest(family)}) {
                    for (int k : new int[] {0, 1, 2, n}) {
                        BigInteger count = new BigInteger(countOf(family, n, k));
                        if (count.signum() > 0) {
                            fresh();
                            make(9, family, n, k);
                            wouldAnswer(false, c -> c.previous(9));
                            does(c -> c.draw(9, family, n, k, 1));
                            wouldAnswer(count.compareTo(BigInteger.ONE) > 0, c -> c.previous(9));
                            does(c -> c.draw(9, family, n, k, -1));
                            wouldAnswer(count.compareTo(BigInteger.ONE) > 0, c -> c.previous(9));
                        }
                    }
                }
            }
        }

        /** Just to the last one, just beyond it, and round as often as a long can tell. */
        private static void skips() {
            sentence("Lets a slot become the figure whose rank is more by a number, going round as often as need be.");
            Object[][] told = {{'a', 5, "0", 6L, "6"}, {'a', 5, "0", 7L, "0"}, {'a', 5, "6", 1L, "0"},
                {'a', 5, "3", 4L, "0"}, {'a', 5, "3", 3L, "6"}, {'a', 5, "0", 700000000000000003L, "3"},
                {'a', 5, "6", Long.MAX_VALUE, "6"}, {'a', 0, "0", Long.MAX_VALUE, "0"},
                {'s', 25, "4638590332229999352", 1L, "0"},
                {'s', 25, "4638590332229999352", 4638590332229999352L, "4638590332229999351"},
                {'s', 25, "4638590332229999352", Long.MAX_VALUE, "4584781704624776453"},
                {'s', 25, "0", 4638590332229999353L, "0"}, {'t', 20, "262143999999999999999999", 1L, "0"},
                {'t', 20, "262143999999999999999999", Long.MAX_VALUE, "9223372036854775806"},
                {'t', 20, "0", Long.MAX_VALUE, "9223372036854775807"}, {'t', 1, "0", Long.MAX_VALUE, "0"},
                {'t', 2, "0", 1L, "0"}, {'v', 0, "0", 1L, "0"}};
            for (Object[] each : told) {
                long by = (Long) each[3];
                fresh();
                put((String) each[2]);
                does(c -> c.unrank(9, (Character) each[0], (Integer) each[1], 0));
                does(c -> c.skip(9, by));
                does(c -> c.rank(9));
                textIs((String) each[4]);
            }
        }

        private static void skipsBack() {
            sentence("the number, also below 0");
            Object[][] told = {{'a', 5, "0", -1L, "6"}, {'a', 5, "6", -6L, "0"}, {'a', 5, "6", -7L, "6"},
                {'a', 5, "0", 0L, "0"}, {'a', 5, "0", Long.MIN_VALUE, "6"}, {'a', 0, "0", Long.MIN_VALUE, "0"},
                {'s', 25, "0", -1L, "4638590332229999352"}, {'s', 25, "0", -4638590332229999353L, "0"},
                {'s', 25, "1", Long.MIN_VALUE, "53808627605222899"}, {'t', 20, "0", -1L, "262143999999999999999999"},
                {'t', 20, "0", Long.MIN_VALUE, "262134776627963145224192"},
                {'t', 20, "9223372036854775808", Long.MIN_VALUE, "0"}, {'t', 1, "0", -1L, "0"}, {'v', 0, "0", -1L, "0"}};
            for (Object[] each : told) {
                long by = (Long) each[3];
                fresh();
                put((String) each[2]);
                does(c -> c.unrank(9, (Character) each[0], (Integer) each[1], 0));
                does(c -> c.skip(9, by));
                does(c -> c.rank(9));
                textIs((String) each[4]);
            }
        }

        private static void firstNumbers() {
            sentence("Returns the first number of its row, -1 if it is empty.");
            for (Object[] each : new Object[][] {{'a', 0, 0}, {'s', 0, 0}, {'k', 0, 0}, {'u', 0, 0}, {'u', 40, 0},
                {'b', 0, 0}, {'t', 1, 0}, {'t', 2, 0}, {'c', 0, 0}, {'l', 0, 0}, {'g', 0, 0}, {'d', 0, 0}, {'o', 0, 0}}) {
                fresh();
                make(9, (Character) each[0], (Integer) each[1], (Integer) each[2]);
                answers(-1, c -> c.skip(9, 0));
                answers(-1, c -> c.skip(9, 5));
            }
            fresh();
            make(9, 's', 3, 0);
            answers(0, c -> c.skip(9, 4));
            make(9, 'v', 0, 0);
            answers(0, c -> c.skip(9, 4));
            make(9, 'u', 40, 1);
            answers(0, c -> c.skip(9, 0));
            answers(39, c -> c.skip(9, -1));
            make(9, 'a', 60, 0);
            answers(60, c -> c.skip(9, -1));
            answers(1, c -> c.skip(9, 1));
        }

        private static void undoes() {
            sentence("Lets the slot of the latest call that is kept hold what it held ahead of it; that call is kept no longer.");
            make(0, 'a', 3, 0);
            refuses(ARGUMENT, c -> c.make(0, 'x', 3, 0));
            does(c -> c.next(0));
            make(9, 'u', 5, 0);
            answers(9, PartitionCabinet::undo);
            refuses(NONE, c -> c.length(9));
            rowIs(0, "2,1");
            answers(0, PartitionCabinet::undo);
            rowIs(0, "1,1,1");
            make(4, 's', 2, 0);
            answers(4, PartitionCabinet::undo);
            answers(0, PartitionCabinet::undo);
            answers(0, c -> c.held());
            refuses(NONE, PartitionCabinet::undo);
            make(0, 'v', 20, 0);
            make(0, 'a', 1, 0);
            make(0, 't', 2, 60);
            does(PartitionCabinet::undo);
            rowIs(0, "1");
            letterIs(0, 'a');
            does(PartitionCabinet::undo);
            check(x.length(0), 41);
        }

        private static void slots() {
            sentence("Returns the slot.");
            for (int slot = 0; slot < 10; slot++) {
                int own = slot;
                make(own, 'a', 3, 0);
                wouldAnswer(own, PartitionCabinet::undo);
            }
            for (int slot = 9; slot >= 0; slot--) {
                answers(slot, PartitionCabinet::undo);
            }
        }

        private static void noneKept() {
            sentence("Throws `NoSuchElementException` if no call is kept");
            refuses(NONE, PartitionCabinet::undo);
            make(3, 'a', 3, 0);
            takes(PartitionCabinet::undo);
            does(PartitionCabinet::undo);
            refuses(NONE, PartitionCabinet::undo);
            for (int made = 1; made <= 14; made++) {
                make(3, 'a', made, 0);
            }
            for (int i = 0; i < 12; i++) {
                answers(3, PartitionCabinet::undo);
            }
            refuses(NONE, PartitionCabinet::undo);
            rowIs(3, "1,1");
        }
    }

    private static final class Comparing {

        static void all() {
            section("Promise 13");
            plain("the one", "the other one", "Compares two figures of the same family by their order.");
            answersOfCompare();
            noSuchSlotForEither('a', (c, a, b) -> c.compare(a, b));
            oneHoldsNone("Throws `NoSuchElementException` if one of them holds none", 'a', (c, a, b) -> c.compare(a, b));
            unlikeFamilies();
        }

        private static void answersOfCompare() {
            sentence("Returns -1 if the first one is ahead, 0 if both are the same, 1 otherwise.");
            for (char family : FAMILIES.toCharArray()) {
                for (int n : new int[] {4, greatest(family)}) {
                    fresh();
                    make(0, family, n, 2);
                    make(1, family, n, 2);
                    does(c -> c.draw(2, family, n, 2, 1));
                    does(c -> c.draw(3, family, n, 2, -1));
                    answers(0, c -> c.compare(0, 0));
                    answers(0, c -> c.compare(0, 1));
                    answers(-1, c -> c.compare(0, 2));
                    answers(1, c -> c.compare(2, 0));
                    answers(-1, c -> c.compare(0, 3));
                    answers(1, c -> c.compare(3, 1));
                    answers(0, c -> c.compare(3, 3));
                }
            }
            fresh();
            make(0, 'a', 0, 0);
            make(1, 'a', 0, 0);
            answers(0, c -> c.compare(0, 1));
        }

        private static void unlikeFamilies() {
            sentence("Throws `IllegalArgumentException` if their families are not the same");
            for (char one : FAMILIES.toCharArray()) {
                for (char other : FAMILIES.toCharArray()) {
                    fresh();
                    make(0, one, 4, 2);
                    make(1, other, 4, 2);
                    make(2, other, 3, 2);
                    make(3, other, 4, 1);
                    if (one == other) {
                        takes(c -> c.compare(0, 1));
                    } else {
                        refuses(ARGUMENT, c -> c.compare(0, 1));
                    }
                    refuses(ARGUMENT, c -> c.compare(0, 2));
                    refuses(ARGUMENT, c -> c.compare(3, 0));
                }
            }
        }
    }

    private static final class TextCalls {

        static void all() {
            section("Promise 18");
            plain("the sign");
            puts();
            typeAnswers();
            noSuchSign();
            full();
            section("Promise 19");
            erases();
            eraseAnswers();
            section("Promise 20");
            plain("Returns a sign of the text.");
            places();
            signs();
            noSuchPlace();
        }

        private static void puts() {
            sentence("Puts a sign behind the text.");
            StringBuilder all = new StringBuilder();
            for (int code = 32; code <= 126; code++) {
                char sign = (char) code;
                does(c -> c.type(sign));
                all.append(sign);
            }
            textIs(all.toString());
            put("x".repeat(199));
            does(c -> c.type('y'));
            textIs("x".repeat(199) + "y");
            make(0, 'a', 0, 0);
            does(c -> c.tell(0));
            does(c -> c.type('z'));
            textIs("z");
            does(c -> c.count('a', 5, 0));
            does(c -> c.type('!'));
            textIs("7!");
        }

        private static void typeAnswers() {
            sentence("Returns how many signs it has then.");
            for (int i = 1; i <= 200; i++) {
                answers(i, c -> c.type('0'));
            }
        }

        private static void noSuchSign() {
            sentence("Throws `IllegalArgumentException` if its code is not 32 to 126");
            for (int turn = 0; turn < 2; turn++) {
                for (int code : new int[] {0, 1, 9, 10, 13, 31, 127, 128, 159, 160, 255, 256, 256 + 48, 32767, 32768, 65535}) {
                    refuses(ARGUMENT, c -> c.type((char) code));
                }
                for (int code : new int[] {32, 33, 48, 57, 125, 126}) {
                    takes(c -> c.type((char) code));
                }
                put("x".repeat(199));
            }
        }

        private static void full() {
            sentence("Throws `IllegalStateException` if the text has 200 signs");
            put("x".repeat(198));
            answers(199, c -> c.type('y'));
            takes(c -> c.type('y'));
            answers(200, c -> c.type('y'));
            refuses(STATE, c -> c.type('y'));
            refuses(STATE, c -> c.type(' '));
            refuses(STATE, c -> c.type('~'));
            does(c -> c.read(0, 'a', 5, 0));
            answers(1, c -> c.type('y'));
        }

        private static void erases() {
            sentence("Takes the text away.");
            does(PartitionCabinet::erase);
            textIs("");
            put("x");
            does(PartitionCabinet::erase);
            textIs("");
            put("x".repeat(200));
            does(PartitionCabinet::erase);
            textIs("");
            does(c -> c.type('y'));
            textIs("y");
        }

        private static void eraseAnswers() {
            sentence("Returns how many signs it had.");
            answers(0, PartitionCabinet::erase);
            put("x");
            answers(1, PartitionCabinet::erase);
            put("x".repeat(199));
            answers(199, PartitionCabinet::erase);
            answers(0, PartitionCabinet::erase);
            fresh();
            put("x".repeat(200));
            answers(200, PartitionCabinet::erase);
            answers(0, PartitionCabinet::erase);
        }

        private static void places() {
            sentence("its place, from 0");
            put("abc");
            answers('a', c -> c.signAt(0));
            answers('b', c -> c.signAt(1));
            answers('c', c -> c.signAt(2));
        }

        private static void signs() {
            sentence("Returns the sign.");
            put(" ");
            answers(' ', c -> c.signAt(0));
            put("~");
            answers('~', c -> c.signAt(0));
            put("x".repeat(199) + "y");
            answers('x', c -> c.signAt(198));
            answers('y', c -> c.signAt(199));
        }

        private static void noSuchPlace() {
            sentence("Throws `IllegalArgumentException` if there is no such place");
            for (int size : new int[] {0, 1, 2, 199, 200}) {
                fresh();
                put("x".repeat(size));
                for (int place : new int[] {-1, size, size + 1, LEAST, GREATEST}) {
                    refuses(ARGUMENT, c -> c.signAt(place));
                }
                if (size > 0) {
                    takes(c -> c.signAt(0));
                    takes(c -> c.signAt(size - 1));
                    does(PartitionCabinet::erase);
                    refuses(ARGUMENT, c -> c.signAt(0));
                }
            }
        }
    }
}
