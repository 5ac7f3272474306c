import java.math.BigInteger;
import java.util.ArrayDeque;
import java.util.ArrayList;
import java.util.Arrays;
import java.util.Collections;
import java.util.HashMap;
import java.util.List;
import java.util.Map;
import java.util.NoSuchElementException;
import java.util.TreeSet;

/**
 * Long runs of calls, the same on the class and on a second, slow cabinet that is written straight from the
 * words of the document: each answer, each exception and each checksum must be the same.
 */
public final class AgainstReference {

    private static final int RUNS = 700;
    private static final int CALLS = 512;
    private static int passed = 0;
    private static int failed = 0;

    public static void main(String[] args) {
        for (int run = 0; run < RUNS && failed < 10; run++) {
            if (new Run(run).isSame()) {
                passed++;
            } else {
                failed++;
            }
        }
        System.out.println("AgainstReference: " + passed + " runs passed, " + failed + " failed");
        if (failed > 0) {
            System.exit(1);
        }
    }

    interface Call {
        long answer();
    }

    /** The answer of a call, or the name of the very exception's class. */
    static String answerOf(Call call) {
        try {
            return Long.toString(call.answer());
        } catch (RuntimeException e) {
            return e.getClass().getName();
        }
    }

    /** One run of calls; its numbers come from a plain generator, so that a run is always the same. */
    static final class Run {
        private final int number;
        private long seed;
        private final PartitionCabinet x = new PartitionCabinet();
        private final Reference y = new Reference();
        private final int focus;

        Run(int number) {
            this.number = number;
            this.seed = number * 7919L + 17;
            this.focus = number % 14;
        }

        int below(int limit) {
            seed = seed * 6364136223846793005L + 1442695040888963407L;
            return (int) ((seed >>> 33) % limit);
        }

        boolean isSame() {
            for (int i = 0; i < CALLS; i++) {
                String[] both = step();
                String sum = Long.toString(x.checksum());
                if (!both[1].equals(both[2]) || !sum.equals(Long.toString(y.checksum()))) {
                    System.out.println("run " + number + " call " + i + ": " + both[0] + " answered " + both[1] + ", due is "
                            + both[2] + (sum.equals(Long.toString(y.checksum())) ? "" : "; the checksums differ")
                            + "; the text due is " + y.text);
                    return false;
                }
            }
            return true;
        }

        String[] both(String told, Call one, Call other) {
            return new String[] {told, answerOf(one), answerOf(other)};
        }

        int slot() {
            if (below(60) == 0) {
                int[] odd = {-1, 10, Integer.MIN_VALUE, Integer.MAX_VALUE};
                return odd[below(4)];
            }
            return below(below(3) == 0 ? 10 : 3);
        }

        char letter() {
            if (below(80) == 0) {
                char[] odd = {'A', 'x', 0, (char) 65535, 'w', ' '};
                return odd[below(6)];
            }
            if (focus < 12 && below(4) != 0) {
                return "algdoskubvtc".charAt(focus);
            }
            return focus == 12 && below(3) != 0 ? "algdo".charAt(below(5)) : "algdoskubvtc".charAt(below(12));
        }

        int number(char letter) {
            int greatest = Reference.greatestN(letter);
            int which = below(50);
            if (which == 0) {
                int[] odd = {-1, greatest + 1, Integer.MIN_VALUE, Integer.MAX_VALUE, 61, 0};
                return odd[below(6)];
            }
            if (which < 30) {
                return below(8);
            }
            return which < 34 ? greatest : below(Math.max(greatest, 1) + 1);
        }

        int second(int n) {
            int which = below(60);
            if (which == 0) {
                int[] odd = {-1, 61, Integer.MIN_VALUE, Integer.MAX_VALUE};
                return odd[below(4)];
            }
            return which < 45 ? below(Math.max(1, Math.min(60, n)) + 1) : below(61);
        }

        long big() {
            switch (below(5)) {
                case 0: return below(20) - 10;
                case 1: return Long.MIN_VALUE + below(3);
                case 2: return Long.MAX_VALUE - below(3);
                default: return ((long) below(Integer.MAX_VALUE) << 32) ^ below(Integer.MAX_VALUE) ^ ((long) below(2) << 63);
            }
        }

        String[] typed(String signs) {
            String[] last = both("erase()", () -> x.erase(), () -> y.erase());
            for (int i = 0; i < signs.length(); i++) {
                char sign = signs.charAt(i);
                last = both("type(" + sign + ")", () -> x.type(sign), () -> y.type(sign));
                if (!last[1].equals(last[2])) {
                    return last;
                }
            }
            return last;
        }

        /** Puts something into the text that is then read: a row of the family, mostly with something changed. */
        String[] rowText(char letter, int n, int k) {
            StringBuilder signs = new StringBuilder();
            Reference z = new Reference();
            try {
                z.draw(0, letter, n, k, big());
                z.tell(0);
                signs.append(z.text);
            } catch (RuntimeException e) {
                signs.append("1,1");
            }
            int changes = below(3) == 0 ? 0 : 1 + below(2);
            for (int i = 0; i < changes; i++) {
                int place = below(signs.length() + 1);
                char sign = "0123456789,,, +-a/:~".charAt(below(20));
                switch (below(4)) {
                    case 0: signs.insert(place, sign); break;
                    case 1: if (place < signs.length()) { signs.deleteCharAt(place); } break;
                    case 2: if (place < signs.length()) { signs.setCharAt(place, sign); } break;
                    default: signs.setLength(place);
                }
            }
            if (below(12) == 0) {
                signs.insert(0, "000");
            }
            if (below(40) == 0) {
                signs.append("99999999999999999999");
            }
            return typed(signs.substring(0, Math.min(200, signs.length())));
        }

        String[] rankText(char letter, int n, int k) {
            String signs;
            BigInteger count = Reference.isFamily(letter, n, k) ? Reference.countOf(letter, n, k) : BigInteger.TEN;
            switch (below(9)) {
                case 0: signs = count.toString(); break;
                case 1: signs = count.subtract(BigInteger.ONE).toString(); break;
                case 2: signs = "+" + count.shiftRight(1); break;
                case 3: signs = below(2) == 0 ? "-0" : "-" + below(3); break;
                case 4: signs = "0000" + below(4); break;
                case 5: signs = new String[] {"", "+", "-", "+-1", "1+", " 1", "1 ", "1,2", "0x1", "12a"}[below(10)]; break;
                case 6: signs = "9".repeat(1 + below(200)); break;
                default: signs = count.signum() == 0 ? "0"
                        : BigInteger.valueOf(big()).abs().mod(count).toString();
            }
            return typed(signs);
        }

        String[] step() {
            int a = slot();
            int b = slot();
            int c = slot();
            int which = below(100);
            if (which < 22) {
                return figures(a, which);
            }
            return which < 50 ? plain(a, b, which) : shaped(a, b, c, which);
        }

        String[] figures(int a, int which) {
            char f = letter();
            int n = number(f);
            int k = second(n);
            long m = big();
            if (which < 2) {
                return both("count " + f + n + "," + k, () -> x.count(f, n, k), () -> y.count(f, n, k));
            }
            if (which < 5) {
                return both("make " + f + n + "," + k, () -> x.make(a, f, n, k), () -> y.make(a, f, n, k));
            }
            if (which < 12) {
                return both("draw " + f + n + "," + k + "," + m, () -> x.draw(a, f, n, k, m), () -> y.draw(a, f, n, k, m));
            }
            if (which < 17) {
                String[] typed = below(8) == 0 ? new String[] {"", "", ""} : rankText(f, n, k);
                return !typed[1].equals(typed[2]) ? typed
                        : both("unrank " + f + n + "," + k, () -> x.unrank(a, f, n, k), () -> y.unrank(a, f, n, k));
            }
            String[] typed = below(8) == 0 ? new String[] {"", "", ""} : rowText(f, n, k);
            return !typed[1].equals(typed[2]) ? typed
                    : both("read " + f + n + "," + k, () -> x.read(a, f, n, k), () -> y.read(a, f, n, k));
        }

        String[] plain(int a, int b, int which) {
            int place = below(20) == 0 ? (below(2) == 0 ? -1 : Integer.MAX_VALUE) : below(30);
            long m = big();
            char sign = below(10) == 0 ? new char[] {31, 127, 0, (char) 65535}[below(4)] : (char) (32 + below(95));
            switch (which - 22) {
                case 0: return both("copy " + a + "," + b, () -> x.copy(a, b), () -> y.copy(a, b));
                case 1: return both("tell " + a, () -> x.tell(a), () -> y.tell(a));
                case 2: case 3: return both("rank " + a, () -> x.rank(a), () -> y.rank(a));
                case 4: case 5: return both("next " + a, () -> x.next(a) ? 1 : 0, () -> y.next(a) ? 1 : 0);
                case 6: case 7: return both("previous " + a, () -> x.previous(a) ? 1 : 0, () -> y.previous(a) ? 1 : 0);
                case 8: case 9: return both("skip " + a + "," + m, () -> x.skip(a, m), () -> y.skip(a, m));
                case 10: case 11: return both("compare " + a + "," + b, () -> x.compare(a, b), () -> y.compare(a, b));
                case 12: return both("family " + a, () -> x.family(a), () -> y.family(a));
                case 13: return both("length " + a, () -> x.length(a), () -> y.length(a));
                case 14: case 15: return both("at " + a + "," + place, () -> x.at(a, place), () -> y.at(a, place));
                case 16: case 17: return both("undo", () -> x.undo(), () -> y.undo());
                case 18: case 19: return both("type " + (int) sign, () -> x.type(sign), () -> y.type(sign));
                case 20: return both("erase", () -> x.erase(), () -> y.erase());
                case 21: case 22: return both("signAt " + place, () -> x.signAt(place), () -> y.signAt(place));
                case 23: return both("held", () -> x.held(), () -> y.held());
                case 24: return both("isSound", () -> x.isSound() ? 1 : 0, () -> 1);
                case 25: return many();
                default: return both("often " + a + "," + place, () -> x.often(a, place), () -> y.often(a, place));
            }
        }

        /** Many calls of one kind on end, so that the keeping forgets and the text fills. */
        String[] many() {
            String[] last = both("held", () -> x.held(), () -> y.held());
            int which = below(3);
            int times = which == 2 ? 205 : 14;
            for (int i = 0; i < times && last[1].equals(last[2]); i++) {
                int a = below(10);
                switch (which) {
                    case 0: last = both("undo", () -> x.undo(), () -> y.undo()); break;
                    case 1: last = both("next " + a, () -> x.next(a) ? 1 : 0, () -> y.next(a) ? 1 : 0); break;
                    default: last = both("type 1", () -> x.type('1'), () -> y.type('1'));
                }
            }
            return last;
        }

        String[] shaped(int a, int b, int c, int which) {
            int p = below(25) == 0 ? (below(2) == 0 ? Integer.MIN_VALUE : Integer.MAX_VALUE) : below(9) - (below(9) == 0 ? 2 : 0);
            int q = below(25) == 0 ? (below(2) == 0 ? -1 : Integer.MAX_VALUE) : below(below(3) == 0 ? 22 : 6);
            switch ((which - 50) / 2) {
                case 0: return both("turn " + a, () -> x.turn(a), () -> y.turn(a));
                case 1: return both("square " + a, () -> x.square(a), () -> y.square(a));
                case 2: return both("excess " + a, () -> x.excess(a), () -> y.excess(a));
                case 3: return both("crank " + a, () -> x.crank(a), () -> y.crank(a));
                case 4: return both("match " + a, () -> x.match(a), () -> y.match(a));
                case 5: return both("hook " + a + "," + p + "," + q, () -> x.hook(a, p, q), () -> y.hook(a, p, q));
                case 6: return both("fillings " + a, () -> x.fillings(a), () -> y.fillings(a));
                case 7: return both("isOver " + a + "," + b, () -> x.isOver(a, b) ? 1 : 0, () -> y.isOver(a, b) ? 1 : 0);
                case 8: return both("blocks " + a, () -> x.blocks(a), () -> y.blocks(a));
                case 9: return both("join " + c + "," + a + "," + b, () -> x.join(c, a, b), () -> y.join(c, a, b));
                case 10: return both("meet " + c + "," + a + "," + b, () -> x.meet(c, a, b), () -> y.meet(c, a, b));
                case 11: return both("isFiner " + a + "," + b, () -> x.isFiner(a, b) ? 1 : 0, () -> y.isFiner(a, b) ? 1 : 0);
                case 12: case 13: return both("door " + a, () -> x.door(a), () -> y.door(a));
                case 14: return both("doorRank " + a, () -> x.doorRank(a), () -> y.doorRank(a));
                case 15: return both("branch " + a, () -> x.branch(a), () -> y.branch(a));
                case 16: return both("deepest " + a, () -> x.deepest(a), () -> y.deepest(a));
                case 17: return both("triangles " + a + "," + q, () -> x.triangles(a, q), () -> y.triangles(a, q));
                case 18: return both("degree " + a + "," + q, () -> x.degree(a, q), () -> y.degree(a, q));
                case 19: return both("far " + a + "," + p + "," + q, () -> x.far(a, p, q), () -> y.far(a, p, q));
                case 20: case 21: return both("tables " + a + "," + b, () -> x.tables(a, b), () -> y.tables(a, b));
                case 22: return both("corner " + a + "," + b + "," + p + "," + q, () -> x.corner(a, b, p, q), () -> y.corner(a, b, p, q));
                default: return both("isBinary " + a + "," + b, () -> x.isBinary(a, b) ? 1 : 0, () -> y.isBinary(a, b) ? 1 : 0);
            }
        }
    }

    /** A figure: a letter, two numbers and a row, never changed. */
    record Figure(char f, int n, int k, List<Integer> row) {
    }

    record Keeping(int slot, Figure was) {
    }

    /** A tree of knots; null is none. */
    record Knot(Knot left, Knot right) {
        static int size(Knot knot) {
            return knot == null ? 0 : 1 + size(knot.left) + size(knot.right);
        }

        static int height(Knot knot) {
            return knot == null ? 0 : 1 + Math.max(height(knot.left), height(knot.right));
        }

        static void putBrackets(Knot knot, List<Integer> row) {
            if (knot != null) {
                row.add(0);
                putBrackets(knot.left, row);
                row.add(1);
                putBrackets(knot.right, row);
            }
        }

        static void putBranches(Knot knot, List<Integer> row) {
            row.add(knot == null ? 0 : 1);
            if (knot != null) {
                putBranches(knot.left, row);
                putBranches(knot.right, row);
            }
        }

        static Knot fromBrackets(List<Integer> row, int[] place) {
            if (place[0] >= row.size() || row.get(place[0]) == 1) {
                return null;
            }
            place[0]++;
            Knot left = fromBrackets(row, place);
            place[0]++;
            return new Knot(left, fromBrackets(row, place));
        }

        static Knot fromBranches(List<Integer> row, int[] place) {
            if (row.get(place[0]++) == 0) {
                return null;
            }
            Knot left = fromBranches(row, place);
            return new Knot(left, fromBranches(row, place));
        }

        static int triangles(Knot knot, int i, int j, int corner) {
            if (knot == null) {
                return 0;
            }
            int middle = i + 1 + size(knot.left);
            return (corner == i || corner == j || corner == middle ? 1 : 0)
                    + triangles(knot.left, i, middle, corner) + triangles(knot.right, middle, j, corner);
        }
    }

    /** The second cabinet. */
    static final class Reference {
        private static final Map<List<Integer>, BigInteger> WAYS = new HashMap<>();
        private static final Map<List<Integer>, BigInteger> FILLINGS = new HashMap<>();

        final Figure[] slots = new Figure[10];
        final ArrayDeque<Keeping> kept = new ArrayDeque<>();
        String text = "";

        static int greatestN(char f) {
            switch (f) {
                case 's': case 'k': return 25;
                case 'u': return 40;
                case 'b': case 'v': case 't': return 20;
                default: return 60;
            }
        }

        static boolean isFamily(char f, int n, int k) {
            return "algdoskubvtc".indexOf(f) >= 0 && n >= (f == 't' ? 1 : 0) && n <= greatestN(f) && k >= 0 && k <= 60;
        }

        static void checkFamily(char f, int n, int k) {
            if (!isFamily(f, n, k)) {
                throw new IllegalArgumentException();
            }
        }

        // a state: the letter, k where it is named, and what the rest of a row hangs on

        static List<Integer> start(char f, int n, int k) {
            switch (f) {
                case 'a': case 'd': case 'o': return List.of((int) f, 0, n, 60, 0);
                case 'g': return List.of((int) f, 0, n, k, 0);
                case 'l': return List.of((int) f, 0, n, 60, k);
                case 's': return List.of((int) f, 0, n, 0, 0);
                case 'k': return List.of((int) f, k, n, 0, 0);
                case 'u': return List.of((int) f, n, 0, k, 0);
                case 'b': return List.of((int) f, 0, n, n, 0);
                case 'v': return List.of((int) f, 0, n, n + 1, 0);
                case 't': return List.of((int) f, n, Math.max(0, n - 2), 0, 0);
                default: return List.of((int) f, 0, n, k, 0);
            }
        }

        static boolean isWhole(List<Integer> s) {
            int x = s.get(2);
            int y = s.get(3);
            switch ((char) (int) s.get(0)) {
                case 'k': return x == 0 && y == s.get(1);
                case 'u': return y == 0;
                case 'b': case 'v': case 'c': return x == 0 && y == 0;
                default: return x == 0;
            }
        }

        /** What is there behind a number, null if the number cannot come. */
        static List<Integer> after(List<Integer> s, int v) {
            int f = s.get(0);
            int named = s.get(1);
            int x = s.get(2);
            int y = s.get(3);
            int z = s.get(4);
            if (isWhole(s) || v < 0) {
                return null;
            }
            switch ((char) f) {
                case 'a': case 'g': return v < 1 || v > y || v > x ? null : List.of(f, 0, x - v, v, 0);
                case 'o': return v < 1 || v > y || v > x || v % 2 == 0 ? null : List.of(f, 0, x - v, v, 0);
                case 'd': return v < 1 || v > y || v > x ? null : List.of(f, 0, x - v, v - 1, 0);
                case 'l': return v < 1 || v > y || v > x || z == 0 ? null : List.of(f, 0, x - v, v, z - 1);
                case 's': case 'k': return x == 0 || v > y ? null : List.of(f, named, x - 1, Math.max(y, v + 1), 0);
                case 'u': return v < x || v >= named ? null : List.of(f, named, v + 1, y - 1, 0);
                case 'b': return bracketsAfter(f, x, y, v);
                case 'v': return branchesAfter(f, x, y, v);
                case 't': return v >= named ? null : List.of(f, named, x - 1, 0, 0);
                default: return v < 1 || v > x || y == 0 ? null : List.of(f, 0, x - v, y - 1, 0);
            }
        }

        static List<Integer> bracketsAfter(int f, int opens, int closes, int v) {
            if (v == 0) {
                return opens == 0 ? null : List.of(f, 0, opens - 1, closes, 0);
            }
            return v > 1 || closes <= opens ? null : List.of(f, 0, opens, closes - 1, 0);
        }

        static List<Integer> branchesAfter(int f, int knots, int nones, int v) {
            if (v == 1) {
                return knots == 0 ? null : List.of(f, 0, knots - 1, nones, 0);
            }
            // a beginning has no more 0 than 1, unless the row is whole
            boolean isLast = knots == 0 && nones == 1;
            return v > 1 || nones == 0 || (!isLast && nones - 1 <= knots) ? null : List.of(f, 0, knots, nones - 1, 0);
        }

        static BigInteger ways(List<Integer> s) {
            if (s == null) {
                return BigInteger.ZERO;
            }
            if (isWhole(s)) {
                return BigInteger.ONE;
            }
            BigInteger known = WAYS.get(s);
            if (known == null) {
                known = BigInteger.ZERO;
                for (int v = 0; v <= 60; v++) {
                    known = known.add(ways(after(s, v)));
                }
                WAYS.put(s, known);
            }
            return known;
        }

        static BigInteger countOf(char f, int n, int k) {
            return ways(start(f, n, k));
        }

        static BigInteger rankOf(Figure figure) {
            List<Integer> s = start(figure.f, figure.n, figure.k);
            BigInteger rank = BigInteger.ZERO;
            for (int own : figure.row) {
                for (int v = 0; v < own; v++) {
                    rank = rank.add(ways(after(s, v)));
                }
                s = after(s, own);
            }
            return rank;
        }

        static Figure ranked(char f, int n, int k, BigInteger rank) {
            List<Integer> s = start(f, n, k);
            List<Integer> row = new ArrayList<>();
            while (!isWhole(s)) {
                int v = 0;
                while (ways(after(s, v)).compareTo(rank) <= 0) {
                    rank = rank.subtract(ways(after(s, v)));
                    v++;
                }
                row.add(v);
                s = after(s, v);
            }
            return new Figure(f, n, k, row);
        }

        static Figure moved(Figure figure, BigInteger by) {
            BigInteger all = countOf(figure.f, figure.n, figure.k);
            return ranked(figure.f, figure.n, figure.k, rankOf(figure).add(by).mod(all));
        }

        static void checkSlot(int... asked) {
            for (int slot : asked) {
                if (slot < 0 || slot > 9) {
                    throw new IndexOutOfBoundsException();
                }
            }
        }

        void checkHeld(int... asked) {
            for (int slot : asked) {
                if (slots[slot] == null) {
                    throw new NoSuchElementException();
                }
            }
        }

        void checkLetters(String letters, int... asked) {
            for (int slot : asked) {
                if (letters.indexOf(slots[slot].f) < 0) {
                    throw new UnsupportedOperationException();
                }
            }
        }

        void checkTwo(String letters, int a, int b) {
            checkHeld(a, b);
            checkLetters(letters, a, b);
            if (slots[a].n != slots[b].n) {
                throw new IllegalArgumentException();
            }
        }

        Figure one(int slot) {
            checkSlot(slot);
            checkHeld(slot);
            return slots[slot];
        }

        Figure one(int slot, String letters) {
            Figure figure = one(slot);
            checkLetters(letters, slot);
            return figure;
        }

        int become(int slot, Figure figure) {
            kept.addLast(new Keeping(slot, slots[slot]));
            if (kept.size() > 12) {
                kept.removeFirst();
            }
            slots[slot] = figure;
            return figure.row.size();
        }

        int put(String signs) {
            text = signs;
            return signs.length();
        }

        int count(char f, int n, int k) {
            checkFamily(f, n, k);
            return put(countOf(f, n, k).toString());
        }

        int draw(int slot, char f, int n, int k, long number) {
            checkSlot(slot);
            checkFamily(f, n, k);
            BigInteger all = countOf(f, n, k);
            if (all.signum() == 0) {
                throw new NoSuchElementException();
            }
            return become(slot, ranked(f, n, k, BigInteger.valueOf(number).mod(all)));
        }

        int make(int slot, char f, int n, int k) {
            return draw(slot, f, n, k, 0);
        }

        int unrank(int slot, char f, int n, int k) {
            checkSlot(slot);
            if (!text.matches("[+-]?[0-9]+")) {
                throw new NumberFormatException();
            }
            checkFamily(f, n, k);
            BigInteger rank = new BigInteger(text.startsWith("+") ? text.substring(1) : text);
            if (rank.signum() < 0 || rank.compareTo(countOf(f, n, k)) >= 0) {
                throw new NoSuchElementException();
            }
            text = "";
            return become(slot, ranked(f, n, k, rank));
        }

        int read(int slot, char f, int n, int k) {
            checkSlot(slot);
            checkFamily(f, n, k);
            String signs = text;
            text = "";
            List<Integer> row = new ArrayList<>();
            int fault = fault(signs, start(f, n, k), row);
            return fault >= 0 ? -1 - fault : become(slot, new Figure(f, n, k, row));
        }

        static int fault(String signs, List<Integer> s, List<Integer> row) {
            if (signs.isEmpty() && isWhole(s)) {
                return -1;
            }
            int place = 0;
            while (true) {
                int from = place;
                while (place < signs.length() && Character.isDigit(signs.charAt(place))) {
                    place++;
                }
                if (place == from) {
                    return from;
                }
                BigInteger number = new BigInteger(signs.substring(from, place));
                int v = number.bitLength() > 20 ? 100 : number.intValue();
                if (ways(after(s, v)).signum() == 0) {
                    return from;
                }
                row.add(v);
                s = after(s, v);
                if (place == signs.length()) {
                    return isWhole(s) ? -1 : place;
                }
                if (signs.charAt(place) != ',' || isWhole(s)) {
                    return place;
                }
                place++;
            }
        }

        int copy(int slot, int from) {
            checkSlot(slot, from);
            checkHeld(from);
            return become(slot, slots[from]);
        }

        int tell(int slot) {
            return put(one(slot).row.toString().replaceAll("[\\[\\] ]", ""));
        }

        int rank(int slot) {
            return put(rankOf(one(slot)).toString());
        }

        boolean next(int slot) {
            Figure was = one(slot);
            become(slot, moved(was, BigInteger.ONE));
            return compareRows(was.row, slots[slot].row) < 0;
        }

        boolean previous(int slot) {
            Figure was = one(slot);
            become(slot, moved(was, BigInteger.ONE.negate()));
            return compareRows(was.row, slots[slot].row) > 0;
        }

        int skip(int slot, long by) {
            Figure was = one(slot);
            become(slot, moved(was, BigInteger.valueOf(by)));
            return slots[slot].row.isEmpty() ? -1 : slots[slot].row.get(0);
        }

        static int compareRows(List<Integer> a, List<Integer> b) {
            int place = 0;
            while (place < a.size() && place < b.size() && a.get(place).equals(b.get(place))) {
                place++;
            }
            return a.equals(b) ? 0 : Integer.compare(a.get(place), b.get(place));
        }

        int compare(int a, int b) {
            checkSlot(a, b);
            checkHeld(a, b);
            Figure p = slots[a];
            Figure q = slots[b];
            if (p.f != q.f || p.n != q.n || p.k != q.k) {
                throw new IllegalArgumentException();
            }
            return compareRows(p.row, q.row);
        }

        char family(int slot) {
            return one(slot).f;
        }

        int length(int slot) {
            return one(slot).row.size();
        }

        int at(int slot, int place) {
            List<Integer> row = one(slot).row;
            if (place < 0 || place >= row.size()) {
                throw new NoSuchElementException();
            }
            return row.get(place);
        }

        int undo() {
            Keeping last = kept.removeLast();
            slots[last.slot] = last.was;
            return last.slot;
        }

        int type(char sign) {
            if (sign < 32 || sign > 126) {
                throw new IllegalArgumentException();
            }
            if (text.length() == 200) {
                throw new IllegalStateException();
            }
            return put(text + sign);
        }

        int erase() {
            int had = text.length();
            text = "";
            return had;
        }

        char signAt(int place) {
            if (place < 0 || place >= text.length()) {
                throw new IllegalArgumentException();
            }
            return text.charAt(place);
        }

        // partitions

        static final String PARTITIONS = "algdo";

        static List<Integer> turned(List<Integer> row) {
            List<Integer> turned = new ArrayList<>();
            for (int least = 1; ; least++) {
                int parts = 0;
                for (int part : row) {
                    parts += part >= least ? 1 : 0;
                }
                if (parts == 0) {
                    return turned;
                }
                turned.add(parts);
            }
        }

        int turn(int slot) {
            Figure was = one(slot, PARTITIONS);
            char f = was.f == 'l' ? 'g' : was.f == 'g' ? 'l' : 'a';
            become(slot, new Figure(f, was.n, was.k, turned(was.row)));
            return slots[slot].row.isEmpty() ? 0 : slots[slot].row.get(0);
        }

        int square(int slot) {
            List<Integer> row = one(slot, PARTITIONS).row;
            int best = 0;
            for (int side = 1; side <= row.size(); side++) {
                int parts = 0;
                for (int part : row) {
                    parts += part >= side ? 1 : 0;
                }
                best = parts >= side ? side : best;
            }
            return best;
        }

        int excess(int slot) {
            List<Integer> row = one(slot, PARTITIONS).row;
            return row.isEmpty() ? 0 : Collections.max(row) - row.size();
        }

        int crank(int slot) {
            List<Integer> row = one(slot, PARTITIONS).row;
            int ones = Collections.frequency(row, 1);
            if (ones == 0) {
                return row.isEmpty() ? 0 : Collections.max(row);
            }
            int above = 0;
            for (int part : row) {
                above += part > ones ? 1 : 0;
            }
            return above - ones;
        }

        int match(int slot) {
            Figure was = one(slot, "do");
            List<Integer> parts = new ArrayList<>(was.row);
            boolean isChanged = true;
            while (isChanged) {
                isChanged = false;
                for (int i = 0; i < parts.size() && !isChanged; i++) {
                    int part = parts.get(i);
                    if (was.f == 'd' && part % 2 == 0) {
                        parts.set(i, part / 2);
                        parts.add(part / 2);
                        isChanged = true;
                    }
                    if (was.f == 'o' && parts.lastIndexOf(part) != i) {
                        parts.remove(parts.lastIndexOf(part));
                        parts.set(i, 2 * part);
                        isChanged = true;
                    }
                }
            }
            parts.sort(Collections.reverseOrder());
            return become(slot, new Figure(was.f == 'd' ? 'o' : 'd', was.n, was.k, parts));
        }

        int often(int slot, int number) {
            return Collections.frequency(one(slot).row, number);
        }

        static int hookOf(List<Integer> row, int i, int j) {
            int hook = 1;
            for (int column = j + 1; column < row.get(i); column++) {
                hook++;
            }
            for (int below = i + 1; below < row.size(); below++) {
                hook += row.get(below) >= j + 1 ? 1 : 0;
            }
            return hook;
        }

        int hook(int slot, int i, int j) {
            Figure figure = one(slot);
            if (PARTITIONS.indexOf(figure.f) >= 0 && (i < 0 || i >= figure.row.size() || j < 0 || j >= figure.row.get(i))) {
                throw new NoSuchElementException();
            }
            checkLetters(PARTITIONS, slot);
            return hookOf(figure.row, i, j);
        }

        /** The greatest number stands in a place that ends its row and its column. */
        static BigInteger fillingsOf(List<Integer> row) {
            if (row.isEmpty()) {
                return BigInteger.ONE;
            }
            BigInteger known = FILLINGS.get(row);
            if (known == null) {
                known = BigInteger.ZERO;
                for (int i = 0; i < row.size(); i++) {
                    if (i + 1 == row.size() || row.get(i + 1) < row.get(i)) {
                        List<Integer> less = new ArrayList<>(row);
                        less.set(i, row.get(i) - 1);
                        less.remove((Integer) 0);
                        known = known.add(fillingsOf(less));
                    }
                }
                FILLINGS.put(row, known);
            }
            return known;
        }

        int fillings(int slot) {
            Figure figure = one(slot, PARTITIONS);
            if (figure.n <= 16) {
                return put(fillingsOf(figure.row).toString());
            }
            BigInteger product = BigInteger.ONE;
            BigInteger hooks = BigInteger.ONE;
            for (int i = 2; i <= figure.n; i++) {
                product = product.multiply(BigInteger.valueOf(i));
            }
            for (int i = 0; i < figure.row.size(); i++) {
                for (int j = 0; j < figure.row.get(i); j++) {
                    hooks = hooks.multiply(BigInteger.valueOf(hookOf(figure.row, i, j)));
                }
            }
            return put(product.divide(hooks).toString());
        }

        boolean isOver(int a, int b) {
            checkSlot(a, b);
            checkTwo(PARTITIONS, a, b);
            for (int i = 1; i <= 60; i++) {
                if (firstParts(slots[a].row, i) < firstParts(slots[b].row, i)) {
                    return false;
                }
            }
            return true;
        }

        static int firstParts(List<Integer> row, int many) {
            return row.stream().limit(many).mapToInt(Integer::intValue).sum();
        }

        // splits

        int blocks(int slot) {
            return new TreeSet<>(one(slot, "sk").row).size();
        }

        interface Together {
            boolean are(int i, int j);
        }

        int becomeSplit(int slot, Figure first, Together together) {
            List<Integer> row = new ArrayList<>();
            for (int i = 0; i < first.n; i++) {
                int number = new TreeSet<>(row).size();
                for (int j = i - 1; j >= 0; j--) {
                    number = together.are(i, j) ? row.get(j) : number;
                }
                row.add(number);
            }
            become(slot, new Figure('s', first.n, first.k, row));
            return new TreeSet<>(row).size();
        }

        int join(int slot, int a, int b) {
            checkSlot(slot, a, b);
            checkTwo("sk", a, b);
            Figure p = slots[a];
            Figure q = slots[b];
            boolean[][] reach = new boolean[p.n][p.n];
            for (int i = 0; i < p.n; i++) {
                for (int j = 0; j < p.n; j++) {
                    reach[i][j] = p.row.get(i).equals(p.row.get(j)) || q.row.get(i).equals(q.row.get(j));
                }
            }
            for (int m = 0; m < p.n; m++) {
                for (int i = 0; i < p.n; i++) {
                    for (int j = 0; j < p.n; j++) {
                        reach[i][j] |= reach[i][m] && reach[m][j];
                    }
                }
            }
            return becomeSplit(slot, p, (i, j) -> reach[i][j]);
        }

        int meet(int slot, int a, int b) {
            checkSlot(slot, a, b);
            checkTwo("sk", a, b);
            Figure p = slots[a];
            Figure q = slots[b];
            return becomeSplit(slot, p,
                    (i, j) -> p.row.get(i).equals(p.row.get(j)) && q.row.get(i).equals(q.row.get(j)));
        }

        boolean isFiner(int a, int b) {
            checkSlot(a, b);
            checkTwo("sk", a, b);
            Map<Integer, Integer> goes = new HashMap<>();
            for (int i = 0; i < slots[a].n; i++) {
                int block = slots[b].row.get(i);
                if (goes.computeIfAbsent(slots[a].row.get(i), key -> block) != block) {
                    return false;
                }
            }
            return true;
        }

        // subsets

        static BigInteger doorAhead(int n, int k, List<Integer> set) {
            if (k == 0 || k == n) {
                return BigInteger.ZERO;
            }
            if (!set.contains(n - 1)) {
                return doorAhead(n - 1, k, set);
            }
            BigInteger ahead = countOf('u', n - 1, k);
            BigInteger all = countOf('u', n - 1, k - 1);
            return ahead.add(all.subtract(BigInteger.ONE).subtract(doorAhead(n - 1, k - 1, set.subList(0, k - 1))));
        }

        static List<Integer> doorAt(int n, int k, BigInteger rank) {
            List<Integer> set = new ArrayList<>();
            if (k == 0) {
                return set;
            }
            BigInteger without = k == n ? BigInteger.ZERO : countOf('u', n - 1, k);
            if (rank.compareTo(without) < 0) {
                return doorAt(n - 1, k, rank);
            }
            BigInteger back = countOf('u', n - 1, k - 1).subtract(BigInteger.ONE).subtract(rank.subtract(without));
            set.addAll(doorAt(n - 1, k - 1, back));
            set.add(n - 1);
            return set;
        }

        int door(int slot) {
            Figure was = one(slot, "u");
            BigInteger all = countOf('u', was.n, was.k);
            BigInteger ahead = doorAhead(was.n, was.k, was.row).add(BigInteger.ONE).mod(all);
            List<Integer> set = doorAt(was.n, was.k, ahead);
            become(slot, new Figure('u', was.n, was.k, set));
            List<Integer> comes = new ArrayList<>(set);
            comes.removeAll(was.row);
            List<Integer> goes = new ArrayList<>(was.row);
            goes.removeAll(set);
            if (comes.size() > 1 || goes.size() != comes.size()) {
                throw new AssertionError("the door changes more than one thing");
            }
            return comes.isEmpty() ? -1 : 100 * comes.get(0) + goes.get(0);
        }

        int doorRank(int slot) {
            Figure figure = one(slot, "u");
            return put(doorAhead(figure.n, figure.k, figure.row).toString());
        }

        // brackets, branches

        static Knot knotOf(Figure figure) {
            return figure.f == 'b' ? Knot.fromBrackets(figure.row, new int[1]) : Knot.fromBranches(figure.row, new int[1]);
        }

        int branch(int slot) {
            Figure was = one(slot, "bv");
            List<Integer> row = new ArrayList<>();
            if (was.f == 'b') {
                Knot.putBranches(knotOf(was), row);
            } else {
                Knot.putBrackets(knotOf(was), row);
            }
            return become(slot, new Figure(was.f == 'b' ? 'v' : 'b', was.n, was.k, row));
        }

        int deepest(int slot) {
            Figure figure = one(slot, "bv");
            if (figure.f == 'v') {
                return Knot.height(knotOf(figure));
            }
            int best = 0;
            for (int i = 0; i <= figure.row.size(); i++) {
                List<Integer> begun = figure.row.subList(0, i);
                best = Math.max(best, Collections.frequency(begun, 0) - Collections.frequency(begun, 1));
            }
            return best;
        }

        int triangles(int slot, int corner) {
            Figure figure = one(slot, "bv");
            if (corner < 0 || corner >= figure.n + 2) {
                throw new IllegalArgumentException();
            }
            return Knot.triangles(knotOf(figure), 0, figure.n + 1, corner);
        }

        // trees

        static List<List<Integer>> joints(Figure figure) {
            List<List<Integer>> joints = new ArrayList<>();
            TreeSet<Integer> there = new TreeSet<>();
            for (int i = 0; i < figure.n; i++) {
                joints.add(new ArrayList<>());
                there.add(i);
            }
            List<Integer> code = new ArrayList<>(figure.row);
            while (there.size() > 2) {
                TreeSet<Integer> free = new TreeSet<>(there);
                free.removeAll(code);
                int node = free.first();
                int other = code.remove(0);
                joints.get(node).add(other);
                joints.get(other).add(node);
                there.remove(node);
            }
            if (there.size() == 2) {
                joints.get(there.first()).add(there.last());
                joints.get(there.last()).add(there.first());
            }
            return joints;
        }

        int degree(int slot, int node) {
            Figure figure = one(slot, "t");
            if (node < 0 || node >= figure.n) {
                throw new IllegalArgumentException();
            }
            return joints(figure).get(node).size();
        }

        int far(int slot, int from, int to) {
            Figure figure = one(slot, "t");
            if (from < 0 || from >= figure.n || to < 0 || to >= figure.n) {
                throw new IllegalArgumentException();
            }
            List<List<Integer>> joints = joints(figure);
            int[] steps = new int[figure.n];
            Arrays.fill(steps, -1);
            steps[from] = 0;
            ArrayDeque<Integer> waiting = new ArrayDeque<>(List.of(from));
            while (!waiting.isEmpty()) {
                int node = waiting.poll();
                for (int other : joints.get(node)) {
                    if (steps[other] < 0) {
                        steps[other] = steps[node] + 1;
                        waiting.add(other);
                    }
                }
            }
            return steps[to];
        }

        // tables

        static int sum(List<Integer> row) {
            return firstParts(row, row.size());
        }

        static long tablesOf(List<Integer> rows, int[] columns, int row, int column, int left) {
            if (row == rows.size()) {
                return 1;
            }
            if (column == columns.length) {
                int nextLeft = row + 1 < rows.size() ? rows.get(row + 1) : 0;
                return left == 0 ? tablesOf(rows, columns, row + 1, 0, nextLeft) : 0;
            }
            long all = 0;
            for (int number = 0; number <= left && number <= columns[column]; number++) {
                columns[column] -= number;
                all += tablesOf(rows, columns, row, column + 1, left - number);
                columns[column] += number;
            }
            return all;
        }

        int tables(int a, int b) {
            checkSlot(a, b);
            checkHeld(a, b);
            List<Integer> rows = slots[a].row;
            List<Integer> columns = slots[b].row;
            if (rows.size() > 4 || columns.size() > 4 || sum(rows) != sum(columns) || sum(rows) > 12) {
                throw new IllegalArgumentException();
            }
            int[] left = columns.stream().mapToInt(Integer::intValue).toArray();
            return put(Long.toString(tablesOf(rows, left, 0, 0, rows.isEmpty() ? 0 : rows.get(0))));
        }

        int corner(int a, int b, int row, int column) {
            checkSlot(a, b);
            checkHeld(a, b);
            List<Integer> rows = new ArrayList<>(slots[a].row);
            List<Integer> columns = new ArrayList<>(slots[b].row);
            if (row < 0 || row >= rows.size() || column < 0 || column >= columns.size()) {
                throw new NoSuchElementException();
            }
            if (sum(rows) != sum(columns)) {
                throw new IllegalArgumentException();
            }
            int number = 0;
            for (int i = 0; i <= row; i++) {
                for (int j = 0; j < columns.size() && (i < row || j <= column); j++) {
                    number = Math.min(rows.get(i), columns.get(j));
                    rows.set(i, rows.get(i) - number);
                    columns.set(j, columns.get(j) - number);
                }
            }
            return number;
        }

        /** Each row puts its ones into the columns that want the most. */
        boolean isBinary(int a, int b) {
            checkSlot(a, b);
            checkTwo(PARTITIONS, a, b);
            List<Integer> columns = new ArrayList<>(slots[b].row);
            for (int ones : slots[a].row) {
                columns.sort(Collections.reverseOrder());
                for (int i = 0; i < ones; i++) {
                    if (i >= columns.size() || columns.get(i) == 0) {
                        return false;
                    }
                    columns.set(i, columns.get(i) - 1);
                }
            }
            return true;
        }

        int held() {
            int holding = 0;
            for (Figure figure : slots) {
                holding += figure == null ? 0 : 1;
            }
            return holding;
        }

        long checksum() {
            long h = 7;
            for (Figure figure : slots) {
                h = h * 31 + (figure == null ? 0 : figure.f);
                if (figure != null) {
                    h = h * 31 + figure.n;
                    h = h * 31 + figure.k;
                    for (int number : figure.row) {
                        h = h * 31 + number;
                    }
                }
            }
            for (char sign : text.toCharArray()) {
                h = h * 31 + sign;
            }
            return h;
        }
    }
}
