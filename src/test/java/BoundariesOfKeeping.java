import java.io.IOException;
import java.util.ArrayList;
import java.util.List;

/**
 * The boundary cases of "The text", "Keeping" and "Exceptions": the full text, faults, the twelve calls that are
 * kept, and which of several exceptions is thrown.
 */
public final class BoundariesOfKeeping extends BoundaryBench {

    public static void main(String[] args) throws IOException {
        readDocument();
        TextTerms.all();
        Keeping.all();
        ManyExceptions.all();
        finish("BoundariesOfKeeping");
    }

    private static final class TextTerms {

        static void all() {
            section("The text");
            oneText();
            putAndRead();
            rowsRead();
            fault();
        }

        private static void oneText() {
            sentence("There is one text, empty at first, of at most 200 signs, of the codes 32 to 126.");
            textIs("");
            wouldAnswer(0, c -> c.erase());
            refuses(ARGUMENT, c -> c.signAt(0));
            for (int code = 32; code <= 126; code++) {
                char sign = (char) code;
                fresh();
                answers(1, c -> c.type(sign));
                check(x.signAt(0), sign);
            }
            for (int code : new int[] {0, 9, 10, 31, 127, 128, 255, 256 + 32, 65535}) {
                refuses(ARGUMENT, c -> c.type((char) code));
            }
            fresh();
            put("~".repeat(199));
            answers(200, c -> c.type(' '));
            textIs("~".repeat(199) + " ");
            refuses(STATE, c -> c.type('~'));
            refuses(STATE, c -> c.type(' '));
            answers(200, c -> c.erase());
            textIs("");
            answers(1, c -> c.type('x'));
        }

        /** What is put stands alone, also where 200 signs were; what is read is gone, but not with an exception. */
        private static void putAndRead() {
            sentence("Some calls put a number there, in digits, or a row, its numbers with ',' between two of them, in place of"
                    + " what it was; others read it, and take it away then, also at a fault, but not with an exception.");
            for (String was : new String[] {"", "x", "7".repeat(200)}) {
                puts(was, "0", c -> c.count('l', 1, 0));
                puts(was, "262144000000000000000000", c -> c.count('t', 20, 0));
                puts(was, "3", c -> c.rank(0));
                puts(was, "2,1,1", c -> c.tell(1));
                puts(was, "", c -> c.tell(2));
                puts(was, "6", c -> c.tell(3));
                puts(was, "3", c -> c.fillings(1));
                puts(was, "1", c -> c.fillings(2));
                puts(was, "0", c -> c.doorRank(4));
                puts(was, "1", c -> c.tables(2, 2));
            }
            reads("0", 5, c -> c.unrank(7, 'a', 5, 0));
            reads("6", 1, c -> c.unrank(7, 'a', 5, 0));
            reads("3,2", 2, c -> c.read(7, 'a', 5, 0));
            reads("", 0, c -> c.read(7, 'a', 0, 0));
            reads("3,3", -3, c -> c.read(7, 'a', 5, 0));
            reads("", -1, c -> c.read(7, 'a', 5, 0));
            reads("x".repeat(200), -1, c -> c.read(7, 'a', 5, 0));
            for (String left : new String[] {"", "x", "x".repeat(200)}) {
                leaves(left, NUMBER, c -> c.unrank(7, 'a', 5, 0));
                leaves(left, INDEX, c -> c.unrank(10, 'a', 5, 0));
                leaves(left, INDEX, c -> c.read(10, 'a', 5, 0));
                leaves(left, ARGUMENT, c -> c.read(7, 'a', 61, 0));
            }
            leaves("7", NONE, c -> c.unrank(7, 'a', 5, 0));
            leaves("9".repeat(200), NONE, c -> c.unrank(7, 't', 20, 0));
            leaves("0", ARGUMENT, c -> c.unrank(7, 'a', 61, 0));
        }

        private static void puts(String was, String due, Call call) {
            fresh();
            hold(0, 'a', 5, 0, "3,1,1");
            hold(1, 'a', 4, 0, "2,1,1");
            make(2, 'a', 0, 0);
            hold(3, 'a', 6, 0, "6");
            make(4, 'u', 4, 2);
            put(was);
            answers(due.length(), call);
            textIs(due);
        }

        private static void reads(String signs, Object due, Call call) {
            fresh();
            put(signs);
            answers(due, call);
            textIs("");
        }

        private static void leaves(String signs, Class<?> due, Call call) {
            fresh();
            put(signs);
            refuses(due, call);
            does(call);
            textIs(signs);
        }

        private static void rowsRead() {
            sentence("A row that is read is empty, or numbers, each one digit or more, with ',' between two of them.");
            isRow('a', 0, 0, "");
            isRow('a', 5, 0, "5");
            isRow('a', 11, 0, "11");
            isRow('a', 24, 0, "12,12");
            becomes("3,2", "003,0002");
            becomes("3,2", "3,2".replace("2", "0".repeat(197) + "2"));
            becomes("5", "0".repeat(199) + "5");
            faultAt(0, 'a', 5, 0, ",");
            faultAt(0, 'a', 5, 0, ",5");
            faultAt(2, 'a', 5, 0, "3,");
            faultAt(2, 'a', 5, 0, "3,,2");
            faultAt(1, 'a', 5, 0, "3 2");
            faultAt(2, 'a', 5, 0, "3, 2");
            faultAt(0, 'a', 5, 0, " 3,2");
            faultAt(3, 'a', 5, 0, "3,2 ");
            faultAt(0, 'a', 5, 0, "+5");
            faultAt(0, 'a', 5, 0, "-5");
            faultAt(2, 'a', 5, 0, "3,+2");
            faultAt(1, 'a', 5, 0, "3/2");
            faultAt(1, 'a', 5, 0, "3:2");
            faultAt(1, 'a', 5, 0, "3.2");
            // no digit is no 0
            for (char family : "skubvt".toCharArray()) {
                faultAt(0, family, 4, 2, ",");
                faultAt(0, family, 4, 2, ",1");
                faultAt(0, family, 4, 2, ",0,1");
                faultAt(0, family, 4, 2, " ");
            }
            faultAt(2, 's', 3, 0, "0,,1");
            faultAt(4, 's', 3, 0, "0,1,");
            faultAt(2, 'k', 3, 2, "0,,1");
            faultAt(4, 'k', 3, 2, "0,1,");
            faultAt(2, 'b', 2, 0, "0,,1,1");
            faultAt(2, 'v', 1, 0, "1,,0");
            faultAt(4, 'v', 1, 0, "1,0,");
            faultAt(2, 't', 4, 0, "1,");
            faultAt(2, 't', 4, 0, "1, ");
        }

        private static void becomes(String row, String signs) {
            fresh();
            put(signs);
            answers(row.split(",").length, c -> c.read(1, 'a', 5, 0));
            rowIs(1, row);
        }

        private static void fault() {
            sentence("The fault is the place, from 0, of the first sign that cannot stand there, or of the first digit of the"
                    + " first number that no figure of the family has there behind the numbers ahead of it, whichever is ahead; a"
                    + " ',' cannot stand where the row is whole; the length, if more would have to stand.");
            // a sign, at the first place, the last one, and behind a whole row
            faultAt(0, 'a', 5, 0, "x");
            faultAt(1, 'a', 5, 0, "3x");
            faultAt(1, 'a', 5, 0, "5x");
            faultAt(199, 'a', 5, 0, "0".repeat(198) + "5x");
            // a number, told by its first digit, the digits 0 ahead being some of it
            faultAt(2, 'a', 5, 0, "3,3");
            faultAt(2, 'a', 5, 0, "3,0000003");
            faultAt(3, 'a', 25, 0, "12,13");
            faultAt(0, 'a', 5, 0, "9".repeat(200));
            faultAt(2, 'a', 5, 0, "3," + "9".repeat(198));
            for (String round : new String[] {"4294967301", "18446744073709551621", "1005", "2053", "65541", "261"}) {
                faultAt(0, 'a', 5, 0, round);
            }
            // whichever is ahead
            faultAt(0, 'a', 5, 0, "6x");
            faultAt(2, 'a', 5, 0, "3,3x");
            faultAt(3, 'a', 5, 0, "3,1x3");
            faultAt(2, 'a', 5, 0, "3,3,x");
            faultAt(1, 'a', 5, 0, "3x,9");
            // a ',' behind the whole row, with nothing or a number behind it
            faultAt(1, 'a', 5, 0, "5,");
            faultAt(1, 'a', 5, 0, "5,0");
            faultAt(9, 'a', 5, 0, "1,1,1,1,1,1");
            faultAt(109, 'u', 40, 40, things() + ",");
            faultAt(0, 'a', 0, 0, ",");
            faultAt(0, 't', 1, 0, ",");
            faultAt(1, 'v', 0, 0, "0,");
            // the length
            faultAt(0, 'a', 5, 0, "");
            faultAt(1, 'a', 5, 0, "3");
            faultAt(2, 'a', 5, 0, "3,");
            faultAt(7, 'a', 5, 0, "1,1,1,1");
            faultAt(106, 'u', 40, 40, things().substring(0, 106));
            faultAt(200, 's', 25, 0, "0".repeat(199) + ",");
            faultAt(200, 's', 25, 0, "0".repeat(200));
            // a number with which no row can be whole is one that no figure has
            faultAt(0, 'l', 5, 2, "2,2,1");
            faultAt(2, 'k', 3, 3, "0,0,1");
            faultAt(0, 'u', 5, 2, "4");
            faultAt(2, 'b', 2, 0, "0,2");
            faultAt(0, 'c', 5, 2, "5");
            // no row at all
            faultAt(0, 'l', 5, 0, "");
            faultAt(0, 'l', 5, 0, "5");
            faultAt(0, 'k', 3, 4, "");
            faultAt(0, 'u', 3, 4, "0,1,2");
            faultAt(0, 'c', 3, 0, "");
            faultAt(0, 'c', 3, 4, "1");
        }

        private static String things() {
            StringBuilder row = new StringBuilder("0");
            for (int i = 1; i < 40; i++) {
                row.append(',').append(i);
            }
            return row.toString();
        }
    }

    private static final class Keeping {

        static void all() {
            section("Keeping");
            keeps();
            keepsNoText();
        }

        private static void keeps() {
            sentence("Each call that lets a slot, or the figure that it holds, become something keeps what it held ahead of it,"
                    + " also if it becomes the same, at most twelve of these, the oldest one being forgotten.");
            for (int made = 0; made <= 30; made++) {
                keepsLast(made);
            }
            keepsAgain();
            becomesTheSame();
            becomesAnother();
            keepsNothing();
        }

        /** Behind so many calls all but the latest twelve are forgotten. */
        private static void keepsLast(int made) {
            fresh();
            List<Long> sums = new ArrayList<>();
            for (int i = 0; i < made; i++) {
                int n = i;
                sums.add(x.checksum());
                does(c -> c.make(n % 10, 'a', n, 0));
            }
            for (int i = made - 1; i >= 0 && i >= made - 12; i--) {
                answers(i % 10, PartitionCabinet::undo);
                check(x.checksum(), sums.get(i));
            }
            refuses(NONE, PartitionCabinet::undo);
        }

        /** What undo gave back is kept no longer, and room for as many again. */
        private static void keepsAgain() {
            fresh();
            for (int i = 0; i < 14; i++) {
                int n = i;
                does(c -> c.make(n % 10, 'a', n, 0));
            }
            for (int i = 13; i > 8; i--) {
                answers(i % 10, PartitionCabinet::undo);
            }
            for (int i = 20; i < 25; i++) {
                int n = i;
                does(c -> c.make(n % 10, 'a', n, 0));
            }
            for (int i = 24; i >= 20; i--) {
                answers(i % 10, PartitionCabinet::undo);
            }
            for (int i = 8; i >= 2; i--) {
                answers(i % 10, PartitionCabinet::undo);
            }
            refuses(NONE, PartitionCabinet::undo);
            check(x.held(), 2);
            rowIs(1, "1");
        }

        private static void becomesTheSame() {
            fresh();
            make(0, 'a', 1, 0);
            make(1, 's', 3, 0);
            make(2, 'u', 3, 3);
            make(3, 'a', 0, 0);
            put("0");
            keepsOne(0, c -> c.make(0, 'a', 1, 0));
            keepsOne(0, c -> c.unrank(0, 'a', 1, 0));
            keepsOne(0, c -> c.draw(0, 'a', 1, 0, 0));
            keepsOne(0, c -> c.copy(0, 0));
            keepsOne(0, c -> c.next(0));
            keepsOne(0, c -> c.previous(0));
            keepsOne(0, c -> c.skip(0, 0));
            keepsOne(3, c -> c.skip(3, 1));
            keepsOne(0, c -> c.turn(0));
            keepsOne(1, c -> c.join(1, 1, 1));
            keepsOne(1, c -> c.meet(1, 1, 1));
            keepsOne(2, c -> c.door(2));
            put("1");
            keepsOne(0, c -> c.read(0, 'a', 1, 0));
        }

        private static void becomesAnother() {
            fresh();
            make(0, 'd', 9, 0);
            make(1, 's', 4, 0);
            hold(2, 's', 4, 0, "0,1,1,2");
            make(3, 'u', 5, 2);
            make(4, 'b', 3, 0);
            put("3");
            keepsOne(0, c -> c.make(0, 't', 1, 0));
            keepsOne(7, c -> c.make(7, 't', 1, 0));
            keepsOne(0, c -> c.unrank(0, 'a', 5, 0));
            keepsOne(0, c -> c.draw(0, 'a', 5, 0, 3));
            keepsOne(0, c -> c.copy(0, 1));
            keepsOne(9, c -> c.copy(9, 1));
            keepsOne(0, c -> c.next(0));
            keepsOne(0, c -> c.previous(0));
            keepsOne(0, c -> c.skip(0, -2));
            keepsOne(0, c -> c.turn(0));
            keepsOne(0, c -> c.match(0));
            keepsOne(2, c -> c.join(2, 1, 2));
            keepsOne(1, c -> c.meet(1, 1, 2));
            keepsOne(8, c -> c.meet(8, 1, 2));
            keepsOne(3, c -> c.door(3));
            keepsOne(4, c -> c.branch(4));
            keepsOne(0, c -> c.read(0, 'a', 3, 0));
        }

        /** The call keeps what this slot held: undo gives it back, and what was kept ahead of it is kept still. */
        private static void keepsOne(int slot, Call call) {
            PartitionCabinet c = twin();
            Object got = answerOf(call, c);
            check(got instanceof Class ? got : "an answer", "an answer");
            check(answerOf(PartitionCabinet::undo, c), slot);
            PartitionCabinet was = twin();
            c.erase();
            was.erase();
            check(trace(c), trace(was));
        }

        /** Calls that let nothing become anything keep nothing. */
        private static void keepsNothing() {
            fresh();
            make(0, 'a', 3, 0);
            make(1, 's', 3, 0);
            make(2, 'u', 3, 1);
            make(3, 'b', 3, 1);
            make(4, 't', 3, 1);
            put("x");
            List<Call> others = List.of(c -> c.count('a', 3, 0), c -> c.read(0, 'a', 3, 0), c -> c.tell(0), c -> c.rank(0),
                    c -> c.compare(0, 0), c -> c.family(0), c -> c.length(0), c -> c.at(0, 0), c -> c.type('x'),
                    c -> c.erase(), c -> c.signAt(0), c -> c.square(0), c -> c.excess(0), c -> c.crank(0),
                    c -> c.often(0, 1), c -> c.hook(0, 0, 0), c -> c.fillings(0), c -> c.isOver(0, 0), c -> c.blocks(1),
                    c -> c.isFiner(1, 1), c -> c.doorRank(2), c -> c.deepest(3), c -> c.triangles(3, 0),
                    c -> c.degree(4, 0), c -> c.far(4, 0, 1), c -> c.tables(0, 0), c -> c.corner(0, 0, 0, 0),
                    c -> c.isBinary(0, 0), c -> c.held(), c -> c.checksum(), c -> c.isSound());
            for (Call call : others) {
                PartitionCabinet c = twin();
                PartitionCabinet was = twin();
                Object got = answerOf(call, c);
                check(got instanceof Class ? got : "an answer", "an answer");
                c.erase();
                was.erase();
                check(trace(c), trace(was));
            }
        }

        private static void keepsNoText() {
            sentence("The text is not kept.");
            put("before");
            make(0, 'a', 3, 0);
            does(PartitionCabinet::undo);
            textIs("before");
            put("2");
            does(c -> c.unrank(0, 'a', 3, 0));
            does(PartitionCabinet::undo);
            textIs("");
            make(0, 'a', 3, 0);
            put("behind");
            does(PartitionCabinet::undo);
            textIs("behind");
            put("full".repeat(50));
            make(0, 'a', 3, 0);
            does(PartitionCabinet::erase);
            does(PartitionCabinet::undo);
            textIs("");
        }
    }

    private static final class ManyExceptions {

        static void all() {
            section("Exceptions");
            plainBeginning("Ahead of the calls ");
            changesNothing();
            documentedFirst();
        }

        private static void changesNothing() {
            sentence("A method that throws an exception changes nothing.");
            for (String signs : new String[] {"", "12", "x", "9".repeat(200)}) {
                busy(signs);
                for (int slot : new int[] {-1, 10}) {
                    refusesAll(INDEX, slotCalls(slot));
                }
                refusesAll(NONE, slotCalls(8));
                refusesAll(UNFIT, List.of(c -> c.turn(1), c -> c.square(1), c -> c.excess(1), c -> c.crank(1),
                        c -> c.match(0), c -> c.hook(1, 0, 0), c -> c.fillings(1), c -> c.isOver(0, 1), c -> c.blocks(0),
                        c -> c.join(0, 0, 1), c -> c.meet(0, 0, 1), c -> c.isFiner(0, 1), c -> c.door(0),
                        c -> c.doorRank(0), c -> c.branch(0), c -> c.deepest(0), c -> c.triangles(0, 0),
                        c -> c.degree(0, 0), c -> c.far(0, 0, 0), c -> c.isBinary(0, 1)));
                refusesAll(ARGUMENT, List.of(c -> c.count('x', 1, 1), c -> c.make(0, 'x', 1, 1),
                        c -> c.draw(0, 'x', 1, 1, 1), c -> c.read(0, 'x', 1, 1), c -> c.compare(0, 1),
                        c -> c.type((char) 127), c -> c.signAt(200), c -> c.isOver(0, 6), c -> c.join(0, 1, 9),
                        c -> c.meet(0, 1, 9), c -> c.isFiner(1, 9), c -> c.triangles(3, 4), c -> c.degree(4, 5),
                        c -> c.far(4, 0, 5), c -> c.tables(0, 6), c -> c.tables(5, 5), c -> c.tables(6, 6),
                        c -> c.corner(0, 6, 0, 0), c -> c.isBinary(0, 6)));
                refusesAll(NONE, List.of(c -> c.make(0, 'l', 1, 0), c -> c.draw(0, 'l', 1, 0, 5), c -> c.at(0, 3),
                        c -> c.hook(0, 0, 4), c -> c.corner(0, 0, 3, 0)));
            }
            busy("x");
            refuses(NUMBER, c -> c.unrank(0, 'a', 5, 0));
            busy("7");
            refuses(NONE, c -> c.unrank(0, 'a', 5, 0));
            refuses(ARGUMENT, c -> c.unrank(0, 'x', 5, 0));
            busy("9".repeat(200));
            refuses(STATE, c -> c.type('x'));
            fresh();
            refuses(NONE, PartitionCabinet::undo);
        }

        /** Nine slots hold a figure each, slot 8 holds none, twelve calls are kept, and the text is this one. */
        private static void busy(String signs) {
            fresh();
            hold(0, 'a', 6, 0, "4,1,1");
            hold(2, 'u', 9, 3, "0,4,7");
            hold(3, 'b', 2, 0, "0,1,0,1");
            hold(4, 't', 5, 0, "4,0,4");
            hold(5, 'c', 6, 5, "1,1,2,1,1");
            hold(6, 'd', 13, 0, "7,6");
            hold(7, 'v', 2, 0, "1,1,0,0,0");
            hold(9, 'k', 4, 2, "0,1,1,0");
            for (int i = 0; i < 8; i++) {
                does(c -> c.next(2));
            }
            hold(1, 's', 5, 0, "0,1,0,2,1");
            put(signs);
        }

        private static void refusesAll(Class<?> due, List<Call> all) {
            for (Call call : all) {
                refuses(due, call);
            }
        }

        /** Each call with a slot, which is told; whatever else could be refused is fine. */
        private static List<Call> slotCalls(int slot) {
            List<Call> all = new ArrayList<>(List.of(c -> c.copy(0, slot), c -> c.tell(slot), c -> c.rank(slot),
                    c -> c.next(slot), c -> c.previous(slot), c -> c.skip(slot, 1), c -> c.compare(slot, 0),
                    c -> c.compare(0, slot), c -> c.family(slot), c -> c.length(slot), c -> c.at(slot, 0),
                    c -> c.turn(slot), c -> c.square(slot), c -> c.excess(slot), c -> c.crank(slot), c -> c.match(slot),
                    c -> c.often(slot, 1), c -> c.hook(slot, 0, 0), c -> c.fillings(slot), c -> c.isOver(slot, 0),
                    c -> c.isOver(0, slot), c -> c.blocks(slot), c -> c.join(0, slot, 1), c -> c.join(0, 1, slot),
                    c -> c.meet(0, slot, 1), c -> c.meet(0, 1, slot), c -> c.isFiner(slot, 1), c -> c.isFiner(1, slot),
                    c -> c.door(slot), c -> c.doorRank(slot), c -> c.branch(slot), c -> c.deepest(slot),
                    c -> c.triangles(slot, 0), c -> c.degree(slot, 0), c -> c.far(slot, 0, 0), c -> c.tables(slot, 0),
                    c -> c.tables(0, slot), c -> c.corner(slot, 0, 0, 0), c -> c.corner(0, slot, 0, 0),
                    c -> c.isBinary(slot, 0), c -> c.isBinary(0, slot)));
            if (slot < 0 || slot > 9) {
                all.addAll(List.of(c -> c.make(slot, 'a', 5, 0), c -> c.unrank(slot, 'a', 5, 0),
                        c -> c.draw(slot, 'a', 5, 0, 0), c -> c.read(slot, 'a', 5, 0), c -> c.copy(slot, 0),
                        c -> c.join(slot, 1, 1), c -> c.meet(slot, 1, 1)));
            }
            return all;
        }

        private static void documentedFirst() {
            sentence("If several exceptions apply, the one that is documented first is thrown.");
            busy("x");
            firstOfFamilies();
            firstOfUnrank();
            busy("0");
            for (int none : new int[] {-1, 10}) {
                refusesAll(INDEX, List.of(c -> c.copy(none, 8), c -> c.copy(8, none), c -> c.copy(none, none),
                        c -> c.at(none, -1), c -> c.compare(none, 8), c -> c.compare(8, none), c -> c.compare(none, 0),
                        c -> c.hook(none, -1, -1), c -> c.triangles(none, -1), c -> c.degree(none, -1),
                        c -> c.far(none, -1, -1), c -> c.tables(none, 8), c -> c.tables(8, none), c -> c.tables(5, none),
                        c -> c.corner(none, 8, -1, -1), c -> c.corner(8, none, -1, -1), c -> c.corner(0, none, -1, -1),
                        c -> c.corner(none, 6, 0, 0)));
                firstOfPairs(INDEX, none, 8);
                firstOfPairs(INDEX, none, 2);
                firstOfPairs(INDEX, none, 0);
                firstOfPairs(INDEX, none, 1);
                refusesAll(INDEX, List.of(c -> c.join(none, 8, 8), c -> c.join(none, 2, 2), c -> c.join(none, 1, 9),
                        c -> c.meet(none, 8, 8), c -> c.meet(none, 2, 2), c -> c.meet(none, 1, 9),
                        c -> c.join(none, none, none), c -> c.meet(none, 8, 2)));
            }
            firstOfPairs(NONE, 8, 2);
            firstOfPairs(NONE, 8, 0);
            firstOfPairs(NONE, 8, 1);
            firstOfPairs(UNFIT, 0, 1);
            firstOfPairs(UNFIT, 2, 0);
            firstOfPairs(UNFIT, 2, 1);
            firstOfPairs(UNFIT, 2, 2);
            firstOfPairs(UNFIT, 2, 6);
            firstOfPairs(UNFIT, 2, 9);
            refusesAll(NONE, List.of(c -> c.at(8, -1), c -> c.compare(8, 0), c -> c.hook(8, -1, -1),
                    c -> c.triangles(8, -1), c -> c.degree(8, -1), c -> c.far(8, -1, -1), c -> c.tables(8, 5),
                    c -> c.tables(5, 8), c -> c.corner(8, 6, -1, -1), c -> c.corner(0, 6, 3, 0), c -> c.corner(0, 6, 0, 2),
                    c -> c.corner(0, 6, -1, 0), c -> c.corner(0, 6, 0, -1)));
            refusesAll(UNFIT, List.of(c -> c.hook(1, -1, -1), c -> c.hook(1, 99, 0), c -> c.triangles(0, -1),
                    c -> c.triangles(0, 99), c -> c.degree(0, -1), c -> c.degree(0, 99), c -> c.far(0, -1, 0),
                    c -> c.far(0, 0, 99)));
            busy("9".repeat(200));
            refuses(ARGUMENT, c -> c.type((char) 31));
            refuses(ARGUMENT, c -> c.type((char) 127));
            refuses(STATE, c -> c.type('x'));
        }

        private static void firstOfPairs(Class<?> due, int one, int other) {
            refusesAll(due, List.of(c -> c.isOver(one, other), c -> c.isOver(other, one), c -> c.isBinary(one, other),
                    c -> c.isBinary(other, one), c -> c.isFiner(one, other), c -> c.isFiner(other, one),
                    c -> c.join(0, one, other), c -> c.join(0, other, one), c -> c.meet(0, one, other),
                    c -> c.meet(0, other, one)));
        }

        private static void firstOfFamilies() {
            for (int none : NO_SLOTS) {
                refusesAll(INDEX, List.of(c -> c.make(none, 'x', 1, 1), c -> c.make(none, 'a', 61, 0),
                        c -> c.make(none, 'l', 1, 0), c -> c.make(none, 'a', 1, -1), c -> c.draw(none, 'x', 1, 1, 1),
                        c -> c.draw(none, 'a', 61, 0, 1), c -> c.draw(none, 'l', 1, 0, 1), c -> c.read(none, 'x', 1, 1),
                        c -> c.read(none, 'a', 61, 0), c -> c.read(none, 'a', 1, 61)));
            }
            // none has them, and a number is out of range
            for (int[] numbers : new int[][] {{61, 0}, {-1, 0}, {1, 61}, {1, -1}, {2, 61}}) {
                for (char family : "lgkuc".toCharArray()) {
                    refuses(ARGUMENT, c -> c.make(0, family, numbers[0], numbers[1]));
                    refuses(ARGUMENT, c -> c.draw(0, family, numbers[0], numbers[1], 0));
                }
            }
        }

        private static void firstOfUnrank() {
            for (String signs : new String[] {"", "x", "+", "9".repeat(199) + "x"}) {
                busy(signs);
                refusesAll(INDEX, List.of(c -> c.unrank(10, 'a', 5, 0), c -> c.unrank(-1, 'x', 5, 0),
                        c -> c.unrank(10, 'l', 1, 0)));
                refusesAll(NUMBER, List.of(c -> c.unrank(0, 'x', 5, 0), c -> c.unrank(0, 'a', 61, 0),
                        c -> c.unrank(0, 'a', 5, 61), c -> c.unrank(0, 'l', 1, 0), c -> c.unrank(0, 't', 0, 0)));
            }
            for (String signs : new String[] {"-1", "999", "9".repeat(200)}) {
                busy(signs);
                refusesAll(INDEX, List.of(c -> c.unrank(10, 'a', 5, 0), c -> c.unrank(-1, 'x', 5, 0),
                        c -> c.unrank(10, 'l', 1, 0)));
                refusesAll(ARGUMENT, List.of(c -> c.unrank(0, 'x', 5, 0), c -> c.unrank(0, 'a', 61, 0),
                        c -> c.unrank(0, 'a', 5, 61), c -> c.unrank(0, 'l', 61, 0), c -> c.unrank(0, 't', 0, 0)));
                refusesAll(NONE, List.of(c -> c.unrank(0, 'a', 5, 0), c -> c.unrank(0, 'l', 1, 0)));
            }
        }
    }
}
