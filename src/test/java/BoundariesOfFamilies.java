import java.io.IOException;
import java.math.BigInteger;
import java.util.ArrayList;
import java.util.HashSet;
import java.util.List;
import java.util.Set;

/** The boundary cases of the theorem and of the families, with all that "What it is" says. */
public final class BoundariesOfFamilies extends BoundaryBench {

    public static void main(String[] args) throws IOException {
        readDocument();
        Theorem.all();
        Families.all();
        finish("BoundariesOfFamilies");
    }

    private static final class Theorem {

        static void all() {
            section("What it is");
            plain("A cabinet of figures that are numbered: partitions, splits of sets, subsets, brackets, trees and compositions,"
                    + " over java.math.BigInteger, java.util.TreeMap, LinkedList, ArrayList, ArrayDeque, BitSet and Collections"
                    + " of the JDK.", "<p>Theorem.");
            calls();
            section("Terms");
            numbered();
            back();
            byTheDoor();
            fillings();
            joinAndMeet();
            tablesAndTriangles();
        }

        private static void calls() {
            sentence("An object is used for at most 512 calls after it has been made; what later calls answer is free.");
            check(x.make(0, 'a', 60, 0), 60);
            for (int i = 2; i <= 511; i++) {
                check(x.next(0), true);
            }
            check(x.at(0, 0), 4);
            fresh();
            check(x.make(0, 't', 20, 0), 18);
            for (int i = 2; i <= 510; i++) {
                check(x.previous(0), i > 2);
            }
            check(x.rank(0), 24);
            check(x.signAt(23), '1');
            fresh();
            for (int i = 1; i <= 500; i++) {
                check(x.draw(i % 10, 's', 25, 0, -i), 25);
            }
            for (int i = 12; i > 1; i--) {
                check(x.undo(), (500 - 12 + i) % 10);
            }
            check(x.isSound(), true);
        }

        /** The first rank, the last one, and those beside them that no figure has. */
        private static void numbered() {
            sentence("The figures of each family are numbered one to one from 0 to their count less 1, and next goes from each"
                    + " but the last one to the one ranked 1 more.");
            for (char family : FAMILIES.toCharArray()) {
                for (int n = least(family); n <= 6; n++) {
                    eachOf(family, n, (n + 1) / 2);
                }
                for (int k : new int[] {1, 7, 20}) {
                    endsOf(family, greatest(family), k);
                    endsOf(family, greatest(family) - 1, k);
                }
                endsOf(family, least(family), least(family));
            }
            eachOf('u', 0, 0);
            eachOf('c', 0, 0);
            eachOf('k', 5, 5);
        }

        private static void eachOf(char family, int n, int k) {
            int count = Integer.parseInt(countOf(family, n, k));
            Set<String> rows = new HashSet<>();
            for (int rank = 0; rank < count && rank < 150; rank++) {
                fresh();
                String told = Integer.toString(rank);
                put(told);
                does(c -> c.unrank(1, family, n, k));
                check(rows.add(rowOf(twin(), 1)), true);
                wouldAnswer(told.length(), c -> c.rank(1));
                check(rankOf(twin(), 1), told);
                boolean isLast = rank == count - 1;
                wouldAnswer(!isLast, c -> c.next(1));
                PartitionCabinet behind = twin();
                behind.next(1);
                check(rankOf(behind, 1), isLast ? "0" : Integer.toString(rank + 1));
            }
        }

        private static String rankOf(PartitionCabinet c, int slot) {
            c.rank(slot);
            return textOf(c);
        }

        private static void endsOf(char family, int n, int k) {
            BigInteger count = new BigInteger(countOf(family, n, k));
            fresh();
            for (BigInteger none : new BigInteger[] {BigInteger.ONE.negate(), count, count.negate(), count.add(BigInteger.ONE)}) {
                if (none.signum() != 0) {
                    put(none.toString());
                    refuses(NONE, c -> c.unrank(1, family, n, k));
                }
            }
            if (count.signum() == 0) {
                put("0");
                refuses(NONE, c -> c.unrank(1, family, n, k));
                return;
            }
            String last = count.subtract(BigInteger.ONE).toString();
            put(last);
            does(c -> c.unrank(1, family, n, k));
            check(rankOf(twin(), 1), last);
            answers(false, c -> c.next(1));
            check(rankOf(twin(), 1), "0");
            answers(count.equals(BigInteger.ONE) ? false : true, c -> c.next(1));
            check(rankOf(twin(), 1), count.equals(BigInteger.ONE) ? "0" : "1");
        }

        /** Without parts, knots or joints, and at the greatest n. */
        private static void back() {
            sentence("Turning a partition twice brings it back; partitions of a number into unlike parts and into odd parts are"
                    + " as many, and going from the one to the other and back changes nothing; likewise brackets and branches,"
                    + " and labelled trees and their codes.");
            for (int n = 0; n <= 60; n++) {
                check(countOf('d', n, 0), countOf('o', n, 60));
            }
            for (int n = 0; n <= 20; n++) {
                check(countOf('b', n, 0), countOf('v', n, 0));
            }
            for (char family : "aldgobv".toCharArray()) {
                for (int n : new int[] {0, 1, 2, 3, 7, 20, greatest(family)}) {
                    for (long number : new long[] {0, 1, 3, 12345, -1, -2}) {
                        fresh();
                        does(c -> c.draw(1, family, n, 60, number));
                        changesTwice(family);
                    }
                }
            }
            trees();
        }

        private static void changesTwice(char family) {
            PartitionCabinet c = twin();
            if (PARTITIONS.indexOf(family) >= 0) {
                c.turn(1);
                c.turn(1);
                check(rowOf(c, 1), rowOf(twin(), 1));
                check(c.family(1), "do".indexOf(family) >= 0 ? 'a' : family);
            }
            c = twin();
            for (int i = 0; i < 2; i++) {
                if ("do".indexOf(family) >= 0) {
                    c.match(1);
                } else if ("bv".indexOf(family) >= 0) {
                    c.branch(1);
                }
            }
            check(c.checksum(), twin().checksum());
        }

        private static void trees() {
            for (int n : new int[] {1, 2, 3, 4, 20}) {
                for (long number : new long[] {0, 1, 7, 12345678901L, -1, -2}) {
                    fresh();
                    does(c -> c.draw(1, 't', n, 0, number));
                    int joined = 0;
                    for (int node = 0; node < n; node++) {
                        joined += x.degree(1, node);
                    }
                    check(joined, 2 * (n - 1));
                    wouldAnswer(true, c -> c.isSound());
                }
            }
        }

        private static void byTheDoor() {
            sentence("Going on by the door changes a subset, if there are several of its size, by one thing for another one,"
                    + " and comes through all subsets of its size.");
            for (int[] alone : new int[][] {{0, 0}, {1, 0}, {1, 1}, {7, 0}, {7, 7}, {40, 0}, {40, 40}}) {
                fresh();
                make(1, 'u', alone[0], alone[1]);
                wouldAnswer(-1, c -> c.door(1));
                check(answerOf(c -> c.door(1) + rowOf(c, 1), twin()), "-1" + rowOf(twin(), 1));
            }
            for (int[] some : new int[][] {{2, 1}, {7, 1}, {7, 6}, {7, 3}, {8, 4}, {40, 1}, {40, 39}}) {
                fresh();
                make(1, 'u', some[0], some[1]);
                goesThroughAll(Integer.parseInt(countOf('u', some[0], some[1])));
            }
        }

        private static void goesThroughAll(int count) {
            Set<String> seen = new HashSet<>();
            String first = rowOf(twin(), 1);
            String row = first;
            for (int i = 0; i < count; i++) {
                check(seen.add(row), true);
                int answer = x.door(1);
                String then = rowOf(copyOf(x, 1), 1);
                Set<String> comes = new HashSet<>(List.of(then.split(",")));
                Set<String> goes = new HashSet<>(List.of(row.split(",")));
                comes.removeAll(List.of(row.split(",")));
                goes.removeAll(List.of(then.split(",")));
                check(comes.toString() + goes, "[" + answer / 100 + "][" + answer % 100 + "]");
                row = then;
            }
            check(row, first);
        }

        /** A new object with the same figure in the slot, so that the text of the other one is left alone. */
        private static PartitionCabinet copyOf(PartitionCabinet from, int slot) {
            int size = from.length(slot);
            StringBuilder row = new StringBuilder();
            for (int i = 0; i < size; i++) {
                row.append(i > 0 ? "," : "").append(from.at(slot, i));
            }
            PartitionCabinet c = new PartitionCabinet();
            for (char sign : row.toString().toCharArray()) {
                c.type(sign);
            }
            check(c.read(slot, 'u', 40, size), size);
            return c;
        }

        private static void fillings() {
            sentence("The number of fillings of a partition of n is the product of the numbers from 1 to n divided by the"
                    + " product of all its hooks.");
            for (int n : new int[] {0, 1, 2, 3, 9, 20, 21, 33, 59, 60}) {
                for (long number : new long[] {0, 1, 2, 5, 333, 444444, 77777777, -1, -2}) {
                    fresh();
                    does(c -> c.draw(1, 'a', n, 0, number));
                    String due = quotient(n, twin()).toString();
                    wouldAnswer(due.length(), c -> c.fillings(1));
                    does(c -> c.fillings(1));
                    textIs(due);
                }
            }
        }

        private static BigInteger quotient(int n, PartitionCabinet c) {
            BigInteger product = BigInteger.ONE;
            for (int factor = 1; factor <= n; factor++) {
                product = product.multiply(BigInteger.valueOf(factor));
            }
            for (int row = 0; row < c.length(1); row++) {
                for (int column = 0; column < c.at(1, row); column++) {
                    product = product.divide(BigInteger.valueOf(c.hook(1, row, column)));
                }
            }
            return product;
        }

        /** All splits of up to 4 things, and those of 25 with one block, with 25 and with 2. */
        private static void joinAndMeet() {
            sentence("Of all splits that two splits are finer than, their join is finer than all; of all that are finer than"
                    + " both, their meet is one than which all are finer.");
            for (int n = 0; n <= 4; n++) {
                int count = Integer.parseInt(countOf('s', n, 0));
                for (int one = 0; one < count; one++) {
                    for (int other = 0; other < count; other++) {
                        boundsOf(n, count, one, other);
                    }
                }
            }
            fresh();
            make(0, 's', 25, 0);
            does(c -> c.draw(1, 's', 25, 0, -1));
            answers(1, c -> c.join(2, 0, 1));
            answers(25, c -> c.meet(3, 0, 1));
            answers(25, c -> c.join(4, 1, 1));
            answers(1, c -> c.meet(5, 0, 0));
        }

        private static void boundsOf(int n, int count, int one, int other) {
            PartitionCabinet c = new PartitionCabinet();
            c.draw(0, 's', n, 0, one);
            c.draw(1, 's', n, 0, other);
            c.join(2, 0, 1);
            c.meet(3, 0, 1);
            check(c.isFiner(0, 2) && c.isFiner(1, 2) && c.isFiner(3, 0) && c.isFiner(3, 1), true);
            c.make(4, 's', n, 0);
            for (int i = 0; i < count; i++) {
                check(!(c.isFiner(0, 4) && c.isFiner(1, 4)) || c.isFiner(2, 4), true);
                check(!(c.isFiner(4, 0) && c.isFiner(4, 1)) || c.isFiner(4, 3), true);
                c.next(4);
            }
        }

        private static void tablesAndTriangles() {
            sentence("There is a table of 0 and 1 with told sums just if the one partition, turned, dominates the other one; the"
                    + " triangles at the corners of a polygon are three for each.");
            for (int n = 0; n <= 6; n++) {
                int count = Integer.parseInt(countOf('a', n, 0));
                for (int one = 0; one < count; one++) {
                    for (int other = 0; other < count; other++) {
                        binaryOf(n, one, other);
                    }
                }
            }
            for (int n : new int[] {0, 1, 2, 3, 4, 19, 20}) {
                for (long number : new long[] {0, 1, 2, 4, 1111111, -1, -2}) {
                    trianglesOf(n, number);
                }
            }
        }

        private static void binaryOf(int n, int one, int other) {
            PartitionCabinet c = new PartitionCabinet();
            c.draw(0, 'a', n, 0, one);
            c.draw(1, 'a', n, 0, other);
            boolean got = c.isBinary(0, 1);
            int[] left = new int[c.length(1)];
            for (int i = 0; i < left.length; i++) {
                left[i] = c.at(1, i);
            }
            check(got, isFilled(c, 0, left));
            c.turn(0);
            check(got, c.isOver(0, 1));
        }

        /** Tries to give the rows from one on their ones, the columns with most left first. */
        private static boolean isFilled(PartitionCabinet c, int row, int[] left) {
            if (row == c.length(0)) {
                int all = 0;
                for (int each : left) {
                    all += each;
                }
                return all == 0;
            }
            for (int chosen = 0; chosen < 1 << left.length; chosen++) {
                int[] then = left.clone();
                boolean isFine = Integer.bitCount(chosen) == c.at(0, row);
                for (int i = 0; i < left.length; i++) {
                    then[i] -= chosen >> i & 1;
                    isFine &= then[i] >= 0;
                }
                if (isFine && isFilled(c, row + 1, then)) {
                    return true;
                }
            }
            return false;
        }

        private static void trianglesOf(int n, long number) {
            for (char family : "bv".toCharArray()) {
                fresh();
                does(c -> c.draw(1, family, n, 0, number));
                int all = 0;
                for (int corner = 0; corner <= n + 1; corner++) {
                    all += x.triangles(1, corner);
                }
                check(all, 3 * n);
            }
        }
    }

    private static final class Families {

        static void all() {
            section("Families");
            plain("A figure is a row of numbers.");
            meaninglessK();
            partitions();
            kindsOfPartitions();
            splits();
            subsets();
            brackets();
            branches();
            codes();
            compositions();
            everywhere();
        }

        private static void meaninglessK() {
            sentence("A family has a letter and two numbers, n and k; k is of no meaning, but in range all the same, where it is"
                    + " not named.");
            for (char family : "adosbvt".toCharArray()) {
                fresh();
                takesK(family);
                for (int n : new int[] {least(family), 3, 11, greatest(family)}) {
                    for (int k : new int[] {1, 2, 59, 60}) {
                        check(countOf(family, n, k), countOf(family, n, 0));
                    }
                }
                fresh();
                make(0, family, 5, 0);
                make(1, family, 5, 60);
                check(rowOf(twin(), 1), rowOf(twin(), 0));
                refuses(ARGUMENT, c -> c.compare(0, 1));
            }
        }

        private static void partitions() {
            sentence("'a' are the partitions of n, 0 to 60: rows of numbers above 0, none greater than the one ahead of it, n"
                    + " together.");
            takesN('a', 0, 0, 60);
            check(countOf('a', 0, 0), "1");
            check(countOf('a', 1, 0), "1");
            check(countOf('a', 60, 0), "966467");
            isRow('a', 0, 0, "");
            isRow('a', 1, 0, "1");
            isRow('a', 60, 0, "60");
            isRow('a', 60, 0, "30,30");
            isRow('a', 5, 0, "2,2,1");
            faultAt(0, 'a', 5, 0, "0");
            faultAt(0, 'a', 5, 0, "0,5");
            faultAt(2, 'a', 5, 0, "4,0");
            faultAt(2, 'a', 5, 0, "2,3");
            faultAt(2, 'a', 5, 0, "1,2");
            faultAt(3, 'a', 5, 0, "3,1");
            faultAt(2, 'a', 5, 0, "3,3");
            faultAt(0, 'a', 5, 0, "6");
            faultAt(0, 'a', 60, 0, "61");
            faultAt(0, 'a', 0, 0, "0");
            faultAt(0, 'a', 5, 0, "");
        }

        private static void kindsOfPartitions() {
            sentence("'l' those of them of at most k parts, k being 0 to 60; 'g' those without a part greater than k; 'd' those"
                    + " of unlike parts; 'o' those of odd parts.");
            for (char family : "lg".toCharArray()) {
                fresh();
                takesK(family);
                fresh();
                takesN(family, 1, 0, 60);
                Object[][] counts = {{0, 0, "1"}, {1, 0, "0"}, {60, 0, "0"}, {1, 1, "1"}, {5, 1, "1"}, {5, 4, "6"},
                    {5, 5, "7"}, {5, 6, "7"}, {5, 60, "7"}, {0, 60, "1"}, {60, 1, "1"}, {60, 2, "31"}, {60, 30, "943442"},
                    {60, 59, "966466"}, {60, 60, "966467"}};
                for (Object[] each : counts) {
                    check(countOf(family, (Integer) each[0], (Integer) each[1]), each[2]);
                }
            }
            isRow('l', 5, 2, "3,2");
            isRow('l', 5, 2, "5");
            faultAt(2, 'l', 5, 2, "3,1,1");
            faultAt(0, 'l', 5, 2, "2,2,1");
            faultAt(1, 'l', 5, 1, "5,");
            faultAt(0, 'l', 5, 1, "4");
            isRow('g', 5, 2, "2,2,1");
            isRow('g', 5, 5, "5");
            faultAt(0, 'g', 5, 2, "3,2");
            faultAt(0, 'g', 5, 0, "1");
            fresh();
            takesN('d', 0, 0, 60);
            takesN('o', 0, 0, 60);
            check(countOf('d', 0, 0) + countOf('d', 1, 0) + countOf('d', 2, 0) + countOf('d', 3, 0), "1112");
            check(countOf('o', 0, 0) + countOf('o', 1, 0) + countOf('o', 2, 0) + countOf('o', 3, 0), "1112");
            check(countOf('d', 60, 0) + countOf('o', 60, 0), "1088010880");
            check(countOf('d', 59, 0) + countOf('o', 59, 0), "97929792");
            isRow('d', 5, 0, "3,2");
            isRow('d', 60, 0, "60");
            faultAt(0, 'd', 5, 0, "2,2,1");
            faultAt(2, 'd', 6, 0, "3,3");
            isRow('o', 6, 0, "3,3");
            faultAt(0, 'o', 6, 0, "6");
            faultAt(2, 'o', 6, 0, "5,0");
            faultAt(2, 'o', 5, 0, "3,2");
        }

        private static void splits() {
            sentence("'s' are the splits of a set of n things, 0 to 25: rows of n numbers, the first one 0, each next one at most"
                    + " 1 greater than the greatest one ahead of it; 'k' those that have just k unlike numbers.");
            takesN('s', 0, 0, 25);
            takesN('k', 1, 0, 25);
            takesK('k');
            Object[][] counts = {{'s', 0, 0, "1"}, {'s', 1, 0, "1"}, {'s', 2, 0, "2"}, {'s', 25, 0, "4638590332229999353"},
                {'k', 0, 0, "1"}, {'k', 0, 1, "0"}, {'k', 1, 0, "0"}, {'k', 1, 1, "1"}, {'k', 1, 2, "0"}, {'k', 25, 0, "0"},
                {'k', 25, 1, "1"}, {'k', 25, 2, "16777215"}, {'k', 25, 12, "362262620784874680"}, {'k', 25, 24, "300"},
                {'k', 25, 25, "1"}, {'k', 25, 26, "0"}, {'k', 25, 60, "0"}};
            for (Object[] each : counts) {
                check(countOf((Character) each[0], (Integer) each[1], (Integer) each[2]), each[3]);
            }
            isRow('s', 0, 0, "");
            isRow('s', 1, 0, "0");
            isRow('s', 5, 0, "0,1,0,2,3");
            isRow('s', 25, 0, "0,1,2,3,4,5,6,7,8,9,10,11,12,13,14,15,16,17,18,19,20,21,22,23,24");
            faultAt(0, 's', 0, 0, "0");
            faultAt(0, 's', 1, 0, "1");
            faultAt(0, 's', 4, 0, "1,0,0,0");
            faultAt(2, 's', 4, 0, "0,2");
            faultAt(6, 's', 4, 0, "0,1,0,3");
            faultAt(5, 's', 4, 0, "0,1,0");
            faultAt(7, 's', 4, 0, "0,1,0,0,0");
            isRow('k', 3, 1, "0,0,0");
            isRow('k', 3, 2, "0,1,1");
            isRow('k', 3, 3, "0,1,2");
            isRow('k', 0, 0, "");
            faultAt(2, 'k', 3, 1, "0,1,1");
            faultAt(4, 'k', 3, 2, "0,0,0");
            faultAt(4, 'k', 3, 2, "0,1,2");
            faultAt(2, 'k', 3, 3, "0,0,1");
            faultAt(0, 'k', 3, 4, "0,1,2");
            faultAt(0, 'k', 3, 0, "0");
        }

        private static void subsets() {
            sentence("'u' are the subsets of k of n things, 0 to 40: rows of k numbers from 0 to n less 1, each greater than the"
                    + " one ahead of it.");
            takesN('u', 0, 0, 40);
            takesK('u');
            Object[][] counts = {{0, 0, "1"}, {0, 1, "0"}, {1, 0, "1"}, {1, 1, "1"}, {1, 2, "0"}, {40, 0, "1"},
                {40, 1, "40"}, {40, 20, "137846528820"}, {40, 39, "40"}, {40, 40, "1"}, {40, 41, "0"}, {40, 60, "0"}};
            for (Object[] each : counts) {
                check(countOf('u', (Integer) each[0], (Integer) each[1]), each[2]);
            }
            isRow('u', 0, 0, "");
            isRow('u', 5, 0, "");
            isRow('u', 5, 1, "0");
            isRow('u', 5, 1, "4");
            isRow('u', 40, 2, "0,39");
            isRow('u', 40, 2, "38,39");
            isRow('u', 3, 3, "0,1,2");
            faultAt(0, 'u', 5, 1, "5");
            faultAt(2, 'u', 40, 2, "0,40");
            faultAt(0, 'u', 40, 2, "39");
            faultAt(2, 'u', 5, 2, "1,1");
            faultAt(2, 'u', 5, 2, "1,0");
            faultAt(1, 'u', 5, 2, "1");
            faultAt(3, 'u', 5, 2, "1,2,3");
            faultAt(0, 'u', 5, 0, "0");
            faultAt(0, 'u', 3, 4, "0");
        }

        private static void brackets() {
            sentence("'b' are the brackets of n pairs, 0 to 20: rows of n times 0, which opens, and n times 1, which closes, of"
                    + " which no beginning has more 1 than 0.");
            takesN('b', 0, 0, 20);
            check(countOf('b', 0, 0) + countOf('b', 1, 0) + countOf('b', 2, 0) + countOf('b', 3, 0), "1125");
            check(countOf('b', 20, 0), "6564120420");
            isRow('b', 0, 0, "");
            isRow('b', 1, 0, "0,1");
            isRow('b', 2, 0, "0,1,0,1");
            isRow('b', 2, 0, "0,0,1,1");
            faultAt(0, 'b', 0, 0, "0");
            faultAt(0, 'b', 1, 0, "1");
            faultAt(4, 'b', 2, 0, "0,1,1");
            faultAt(4, 'b', 2, 0, "0,0,0");
            faultAt(0, 'b', 2, 0, "2");
            faultAt(5, 'b', 2, 0, "0,0,1");
            faultAt(7, 'b', 2, 0, "0,1,0,1,0,1");
        }

        private static void branches() {
            sentence("'v' are the branches of n knots, 0 to 20: rows of n times 1, a knot, and n + 1 times 0, none, of which each"
                    + " beginning but the whole row has no more 0 than 1.");
            takesN('v', 0, 0, 20);
            check(countOf('v', 0, 0) + countOf('v', 1, 0) + countOf('v', 2, 0) + countOf('v', 3, 0), "1125");
            check(countOf('v', 20, 0), "6564120420");
            isRow('v', 0, 0, "0");
            isRow('v', 1, 0, "1,0,0");
            isRow('v', 2, 0, "1,0,1,0,0");
            isRow('v', 2, 0, "1,1,0,0,0");
            faultAt(0, 'v', 0, 0, "1");
            faultAt(0, 'v', 0, 0, "");
            faultAt(1, 'v', 0, 0, "0,0");
            faultAt(0, 'v', 1, 0, "0");
            faultAt(4, 'v', 2, 0, "1,0,0");
            faultAt(4, 'v', 2, 0, "1,1,1");
            faultAt(0, 'v', 2, 0, "2");
            faultAt(7, 'v', 2, 0, "1,1,0,0");
            faultAt(9, 'v', 2, 0, "1,1,0,0,0,0");
        }

        private static void codes() {
            sentence("'t' are the codes of labelled trees of n nodes, 1 to 20: rows of n less 2 numbers from 0 to n less 1, the"
                    + " empty row for n 1.");
            takesN('t', 0, 1, 20);
            check(countOf('t', 1, 0) + countOf('t', 2, 0) + countOf('t', 3, 0), "113");
            check(countOf('t', 19, 0), BigInteger.valueOf(19).pow(17).toString());
            check(countOf('t', 20, 0), "262144000000000000000000");
            isRow('t', 1, 0, "");
            isRow('t', 2, 0, "");
            isRow('t', 3, 0, "0");
            isRow('t', 3, 0, "2");
            isRow('t', 20, 0, "19,0,19,0,19,0,19,0,19,0,19,0,19,0,19,0,19,0");
            faultAt(0, 't', 1, 0, "0");
            faultAt(0, 't', 2, 0, "0");
            faultAt(0, 't', 3, 0, "3");
            faultAt(0, 't', 3, 0, "");
            faultAt(2, 't', 4, 0, "3,4");
            faultAt(1, 't', 3, 0, "2,2");
            faultAt(0, 't', 20, 0, "20");
        }

        private static void compositions() {
            sentence("'c' are the compositions of n, 0 to 60, into k parts: rows of k numbers above 0, n together.");
            takesN('c', 1, 0, 60);
            takesK('c');
            Object[][] counts = {{0, 0, "1"}, {0, 1, "0"}, {1, 0, "0"}, {1, 1, "1"}, {1, 2, "0"}, {60, 0, "0"}, {60, 1, "1"},
                {60, 2, "59"}, {60, 30, "59132290782430712"}, {60, 59, "59"}, {60, 60, "1"}, {59, 60, "0"}, {0, 60, "0"}};
            for (Object[] each : counts) {
                check(countOf('c', (Integer) each[0], (Integer) each[1]), each[2]);
            }
            isRow('c', 0, 0, "");
            isRow('c', 1, 1, "1");
            isRow('c', 5, 2, "1,4");
            isRow('c', 5, 2, "4,1");
            isRow('c', 60, 1, "60");
            faultAt(0, 'c', 5, 2, "0,5");
            faultAt(0, 'c', 5, 2, "5,0");
            faultAt(2, 'c', 5, 2, "4,0");
            faultAt(2, 'c', 5, 2, "1,3");
            faultAt(2, 'c', 5, 2, "1,5");
            faultAt(3, 'c', 5, 2, "1,4,0");
            faultAt(1, 'c', 5, 2, "1");
            faultAt(0, 'c', 5, 0, "");
            faultAt(0, 'c', 0, 1, "");
            faultAt(0, 'c', 0, 0, "0");
            faultAt(0, 'c', 3, 4, "1");
        }

        private static void everywhere() {
            sentence("k is 0 to 60 everywhere.");
            for (char family : FAMILIES.toCharArray()) {
                fresh();
                takesK(family);
            }
        }
    }
}
