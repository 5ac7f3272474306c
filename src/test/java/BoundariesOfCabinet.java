import java.io.IOException;
import java.nio.file.DirectoryStream;
import java.nio.file.Files;
import java.nio.file.Path;

/** The boundary cases of promises 44 to 46, and whether each section of the document has its tests. */
public final class BoundariesOfCabinet extends BoundaryBench {

    public static void main(String[] args) throws IOException {
        readDocument();
        WholeCabinet.all();
        hasEachSection();
        finish("BoundariesOfCabinet");
    }

    /** Each section of the document is begun by one of the tests of boundary cases. */
    private static void hasEachSection() throws IOException {
        StringBuilder tests = new StringBuilder();
        try (DirectoryStream<Path> files = Files.newDirectoryStream(Path.of("src/test/java"), "Boundaries*.java")) {
            for (Path file : files) {
                tests.append(Files.readString(file));
            }
        }
        for (String name : sectionsOfDocument()) {
            if (tests.indexOf("section(\"" + name + "\")") < 0) {
                fail("no test for the section: " + name);
            }
        }
    }

    private static final class WholeCabinet {

        static void all() {
            section("Promise 44");
            plain("Returns how many slots hold a figure.");
            held();
            section("Promise 45");
            plain("Returns a sum over all slots and the text, a long that goes round.");
            checksum();
            section("Promise 46");
            isSound();
            soundAnswers();
            section("Not promised");
            plain("How the state is held inside the object is free, as are the speed of each call, the text of toString and"
                    + " the behaviour of equals and hashCode.",
                    "Use of one object from several threads at once is not promised to be safe.",
                    "Nothing is promised beyond the answers and state changes described above, and nothing about an object"
                    + " after its 512th call.");
        }

        private static void held() {
            sentence("Returns how many.");
            answers(0, PartitionCabinet::held);
            for (int slot = 9; slot >= 0; slot--) {
                make(slot, 'a', 0, 0);
                answers(10 - slot, PartitionCabinet::held);
            }
            make(4, 'v', 20, 0);
            does(c -> c.copy(4, 4));
            answers(10, PartitionCabinet::held);
            for (int i = 0; i < 12; i++) {
                does(PartitionCabinet::undo);
            }
            answers(0, PartitionCabinet::held);
            make(9, 't', 1, 0);
            answers(1, PartitionCabinet::held);
        }

        private static void checksum() {
            sentence("Returns 7 at first, then for each slot 31 times itself plus 0 if it holds none, else plus the code of the"
                    + " letter, then 31 times itself plus n, then plus k likewise, then likewise each number of its row; then for"
                    + " each sign of the text 31 times itself plus its code.");
            sumIs(7L * 819628286980801L, "");
            sumOf("", "0 0 0 0 0 0 0 0 0 0");
            put(" ");
            sumOf("", "0 0 0 0 0 0 0 0 0 0 32");
            fresh();
            make(0, 'a', 0, 60);
            sumOf("", "97 0 60 0 0 0 0 0 0 0 0 0");
            make(9, 'v', 0, 1);
            sumOf("", "97 0 60 0 0 0 0 0 0 0 0 118 0 1 0");
            put("~,");
            sumOf("", "97 0 60 0 0 0 0 0 0 0 0 118 0 1 0 126 44");
            fresh();
            make(4, 't', 20, 0);
            does(c -> c.previous(4));
            sumOf("", "0 0 0 0 116 20 0" + " 19".repeat(18) + " 0 0 0 0 0");
            does(PartitionCabinet::undo);
            sumOf("", "0 0 0 0 116 20 0" + " 0".repeat(18) + " 0 0 0 0 0");
            put("~".repeat(200));
            sumOf("", "0 0 0 0 116 20 0" + " 0".repeat(18) + " 0 0 0 0 0" + " 126".repeat(200));
            fresh();
            StringBuilder codes = new StringBuilder();
            for (int slot = 0; slot < 10; slot++) {
                make(slot, 'a', 60, 60);
                codes.append("97 60 60").append(" 1".repeat(60)).append(' ');
            }
            sumOf("", codes.toString().trim());
        }

        private static void sumIs(long due, String signs) {
            check(textOf(twin()), signs);
            check(x.checksum(), due);
        }

        private static void sumOf(String first, String codes) {
            long sum = 7;
            for (String code : (first + codes).split(" ")) {
                sum = 31 * sum + Integer.parseInt(code);
            }
            check(x.checksum(), sum);
            check(twin().checksum(), sum);
        }

        private static void isSound() {
            sentence("Checks the theorem for each figure that is held: its rank makes it again, and the one behind it, but for the"
                    + " last one, has the rank 1 more; a partition turned twice, an odd or unlike one matched twice, brackets and"
                    + " branches branched twice are the same; a tree made from its code has this code; the square of the number of"
                    + " fillings of a partition of at most 20 is not above the product of the numbers to its n; the triangles at all"
                    + " corners are three for each knot; the joins and meets of splits of one n that follow each other in the slots"
                    + " are where they must be, by isFiner().");
            answers(true, PartitionCabinet::isSound);
            for (char family : FAMILIES.toCharArray()) {
                for (int n : new int[] {least(family), least(family) + 1, 19, 20, 21, greatest(family)}) {
                    for (long number : new long[] {0, 1, 77777, -2, -1}) {
                        if (n <= greatest(family)) {
                            soundWith(family, n, number);
                        }
                    }
                }
            }
            splitsOfOneN();
        }

        private static void soundWith(char family, int n, long number) {
            fresh();
            for (int slot = 0; slot < 10; slot += 3) {
                int own = slot;
                int k = "kuc".indexOf(family) >= 0 ? Math.min(n, slot) : 60 - slot;
                does(c -> c.draw(own, family, n, k, number + own));
            }
            put("left alone");
            soundAndUnchanged();
        }

        private static void soundAndUnchanged() {
            PartitionCabinet c = twin();
            check(answerOf(PartitionCabinet::isSound, c), true);
            check(trace(c), trace(twin()));
        }

        /** Splits side by side, with none or other figures in between, of unlike n, and in the last slots. */
        private static void splitsOfOneN() {
            for (int[] n : new int[][] {{0, 0, 0}, {1, 1, 1}, {4, 4, 5}, {4, 5, 4}, {25, 25, 25}, {25, 24, 25}}) {
                for (int[] slots : new int[][] {{0, 1, 2}, {0, 5, 9}, {7, 8, 9}}) {
                    for (long number : new long[] {0, 1, 1234567, -1}) {
                        fresh();
                        for (int i = 0; i < 3; i++) {
                            int own = i;
                            does(c -> c.draw(slots[own], 's', n[own], 0, number * (own + 1) * (own + 1)));
                        }
                        make(4, 'a', 5, 0);
                        soundAndUnchanged();
                    }
                }
            }
        }

        private static void soundAnswers() {
            sentence("Returns true if so.");
            answers(true, PartitionCabinet::isSound);
            fill('k');
            answers(true, PartitionCabinet::isSound);
            for (int slot = 0; slot < 10; slot++) {
                int own = slot;
                does(c -> c.draw(own, FAMILIES.charAt(own + 2), 20, 1, -1));
                answers(true, PartitionCabinet::isSound);
            }
        }
    }
}
