import java.util.ArrayList;
import java.util.Collections;
import java.util.List;

/**
 * All figures of small families, found by trying every row of small numbers by the words of the document:
 * the count, the order, every rank, reading, drawing and the going round must be as this list has them.
 */
public final class SmallFamilies {

    private static final String LETTERS = "algdoskubvtc";
    private static int passed = 0;
    private static int failed = 0;

    public static void main(String[] args) {
        for (char family : LETTERS.toCharArray()) {
            int least = family == 't' ? 1 : 0;
            int most = family == 'b' || family == 'v' ? 4 : family == 't' ? 5 : 6;
            for (int n = least; n <= most; n++) {
                for (int k = 0; k <= 7; k++) {
                    checkFamily(family, n, k);
                }
            }
        }
        System.out.println("SmallFamilies: " + passed + " passed, " + failed + " failed");
        if (failed > 0) {
            System.exit(1);
        }
    }

    private static void due(String what, Object got, Object want) {
        if (got.equals(want)) {
            passed++;
        } else {
            failed++;
            System.out.println(what + " is " + got + ", due is " + want);
        }
    }

    private static String name(List<Integer> row) {
        return row.toString().replaceAll("[\\[\\] ]", "");
    }

    private static String textOf(PartitionCabinet x, int size) {
        StringBuilder signs = new StringBuilder();
        for (int i = 0; i < size; i++) {
            signs.append(x.signAt(i));
        }
        return signs.toString();
    }

    private static void put(PartitionCabinet x, String signs) {
        x.erase();
        for (char sign : signs.toCharArray()) {
            x.type(sign);
        }
    }

    /** Every row that is one of the family, in the order of the document. */
    private static List<List<Integer>> figures(char family, int n, int k) {
        List<List<Integer>> found = new ArrayList<>();
        List<Integer> lengths = new ArrayList<>();
        switch (family) {
            case 's': case 'k': lengths.add(n); break;
            case 'u': case 'c': lengths.add(k); break;
            case 'b': lengths.add(2 * n); break;
            case 'v': lengths.add(2 * n + 1); break;
            case 't': lengths.add(Math.max(0, n - 2)); break;
            default:
                for (int length = 0; length <= n; length++) {
                    lengths.add(length);
                }
        }
        int greatest = family == 'b' || family == 'v' ? 1 : Math.max(n, 0);
        for (int length : lengths) {
            // more numbers than there can be, of a set or a sum, are none
            if (length <= 9) {
                tryAll(new ArrayList<>(), length, greatest, family, n, k, found);
            }
        }
        found.sort((p, q) -> {
            for (int i = 0; i < p.size() && i < q.size(); i++) {
                if (!p.get(i).equals(q.get(i))) {
                    return Integer.compare(p.get(i), q.get(i));
                }
            }
            return 0;
        });
        return found;
    }

    private static void tryAll(List<Integer> row, int length, int greatest, char family, int n, int k, List<List<Integer>> found) {
        if (row.size() == length) {
            if (isFigure(family, n, k, row)) {
                found.add(new ArrayList<>(row));
            }
            return;
        }
        for (int number = 0; number <= greatest; number++) {
            row.add(number);
            if (sum(row) <= n || "sktubv".indexOf(family) >= 0) {
                tryAll(row, length, greatest, family, n, k, found);
            }
            row.remove(row.size() - 1);
        }
    }

    private static int sum(List<Integer> row) {
        int sum = 0;
        for (int number : row) {
            sum += number;
        }
        return sum;
    }

    private static boolean isFigure(char family, int n, int k, List<Integer> row) {
        switch (family) {
            case 'a': return isPartition(n, row);
            case 'l': return isPartition(n, row) && row.size() <= k;
            case 'g': return isPartition(n, row) && (row.isEmpty() || row.get(0) <= k);
            case 'd': return isPartition(n, row) && row.stream().distinct().count() == row.size();
            case 'o': return isPartition(n, row) && row.stream().allMatch(part -> part % 2 == 1);
            case 's': return isSplit(row);
            case 'k': return isSplit(row) && row.stream().distinct().count() == k;
            case 'u': return isSubset(n, row);
            case 'b': return isBalanced(row, 0, row.size()) && Collections.frequency(row, 0) == n;
            case 'v': return isBalanced(row, 1, row.size() - 1) && Collections.frequency(row, 1) == n;
            case 't': return row.stream().allMatch(node -> node < n);
            default: return sum(row) == n && !row.contains(0);
        }
    }

    private static boolean isPartition(int n, List<Integer> row) {
        for (int i = 1; i < row.size(); i++) {
            if (row.get(i) > row.get(i - 1)) {
                return false;
            }
        }
        return sum(row) == n && !row.contains(0);
    }

    private static boolean isSplit(List<Integer> row) {
        for (int i = 0; i < row.size(); i++) {
            int most = i == 0 ? 0 : Collections.max(row.subList(0, i)) + 1;
            if (row.get(i) > most) {
                return false;
            }
        }
        return true;
    }

    private static boolean isSubset(int n, List<Integer> row) {
        for (int i = 0; i < row.size(); i++) {
            if (row.get(i) >= n || i > 0 && row.get(i) <= row.get(i - 1)) {
                return false;
            }
        }
        return true;
    }

    /** No beginning up to a length has less of what opens than of what closes. */
    private static boolean isBalanced(List<Integer> row, int opens, int upTo) {
        for (int i = 0; i <= upTo; i++) {
            List<Integer> begun = row.subList(0, i);
            if (Collections.frequency(begun, opens) < Collections.frequency(begun, 1 - opens)) {
                return false;
            }
        }
        return true;
    }

    private static void checkFamily(char family, int n, int k) {
        if ((family == 't' || family == 'b' || family == 'v') && k > 1) {
            return;
        }
        PartitionCabinet x = new PartitionCabinet();
        List<List<Integer>> figures = figures(family, n, k);
        String told = family + "" + n + "," + k;
        due("count of " + told, textOf(x, x.count(family, n, k)), Integer.toString(figures.size()));
        for (int rank = 0; rank < figures.size(); rank++) {
            // a cabinet is used for at most 512 calls
            checkFigure(told + " at " + rank, family, n, k, figures, rank);
        }
    }

    private static void checkFigure(String told, char family, int n, int k, List<List<Integer>> figures, int rank) {
        PartitionCabinet x = new PartitionCabinet();
        List<Integer> row = figures.get(rank);
        int count = figures.size();
        String signs = name(row);
        due("the length of " + told, x.draw(0, family, n, k, rank - 5L * count), row.size());
        due("the row of " + told, textOf(x, x.tell(0)), signs);
        due("the rank of " + told, textOf(x, x.rank(0)), Integer.toString(rank));
        due("unrank of " + told, x.unrank(1, family, n, k), row.size());
        due("compare of " + told, x.compare(0, 1), 0);
        put(x, signs);
        due("read of " + told, x.read(1, family, n, k), row.size());
        due("compare of " + told, x.compare(0, 1), 0);
        due("isSound of " + told, x.isSound(), true);
        due("next of " + told, x.next(1), rank < count - 1);
        due("the row behind " + told, textOf(x, x.tell(1)), name(figures.get((rank + 1) % count)));
        due("compare behind " + told, x.compare(0, 1), count == 1 ? 0 : rank < count - 1 ? -1 : 1);
        x.undo();
        due("previous of " + told, x.previous(1), rank > 0);
        due("the row ahead of " + told, textOf(x, x.tell(1)), name(figures.get((rank + count - 1) % count)));
        x.make(1, family, n, k);
        due("skip to " + told, x.skip(1, rank + 3L * count), row.isEmpty() ? -1 : row.get(0));
        due("compare of " + told, x.compare(0, 1), 0);
    }
}
