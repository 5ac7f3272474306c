import java.io.IOException;
import java.nio.file.Files;
import java.nio.file.Path;
import java.util.ArrayList;
import java.util.LinkedHashMap;
import java.util.LinkedHashSet;
import java.util.List;
import java.util.Map;
import java.util.NoSuchElementException;
import java.util.Set;

/**
 * What the tests of boundary cases are made of. There is a test of its own for each sentence of ../shared/DOC.md
 * that names a boundary case: the least and the greatest that is taken, the first that is refused on each side, the
 * empty, the full, the last, the first, going round, and each exception. A test tells the sentence that it is for,
 * in the document's own words; at the end each sentence of a section that was begun must have had a test with
 * checks, or be told to name no boundary.
 */
abstract class BoundaryBench {

    static final Class<?> INDEX = IndexOutOfBoundsException.class;
    static final Class<?> ARGUMENT = IllegalArgumentException.class;
    static final Class<?> NUMBER = NumberFormatException.class;
    static final Class<?> STATE = IllegalStateException.class;
    static final Class<?> NONE = NoSuchElementException.class;
    static final Class<?> UNFIT = UnsupportedOperationException.class;
    static final int LEAST = Integer.MIN_VALUE;
    static final int GREATEST = Integer.MAX_VALUE;
    static final int[] NO_SLOTS = {-1, 10, LEAST, GREATEST};
    static final String FAMILIES = "algdoskubvtc";
    static final String PARTITIONS = "algdo";

    private static Document document;
    private static final Set<String> begun = new LinkedHashSet<>();
    private static String section = "";
    private static String sentence = "";
    private static int checks = 0;
    private static int checksBefore = 0;
    private static int failed = 0;
    private static int sentences = 0;

    /** The object of the test at hand, and what was done to it since it was made, so that a twin can be made. */
    static PartitionCabinet x;
    private static final List<Call> done = new ArrayList<>();
    private static int calls = 0;

    interface Call {
        Object on(PartitionCabinet c);
    }

    interface SlotCall {
        Object on(PartitionCabinet c, int slot);
    }

    interface PairCall {
        Object on(PartitionCabinet c, int a, int b);
    }

    interface FamilyCall {
        Object on(PartitionCabinet c, char family, int n, int k);
    }

    static void readDocument() throws IOException {
        document = new Document(Files.readAllLines(Path.of("../shared/DOC.md")));
    }

    static Set<String> sectionsOfDocument() {
        return document.sections.keySet();
    }

    /** Tells what came out, and ends the program with exit code 1 if something was not as due. */
    static void finish(String name) {
        endSentence();
        for (String each : begun) {
            for (String left : document.sentencesLeft(each)) {
                fail("no test for the sentence of " + each + ": " + left);
            }
        }
        System.out.println(name + ": " + sentences + " sentences, " + checks + " checks, " + failed + " failed");
        if (failed > 0) {
            System.exit(1);
        }
    }

    static void fail(String what) {
        failed++;
        System.out.println(what);
    }

    // ---- what a test is made of

    static void section(String name) {
        endSentence();
        section = name;
        begun.add(name);
        if (!document.hasSection(name)) {
            fail("no such section: " + name);
        }
    }

    /** Begins the test for a sentence of the section, with a new object. */
    static void sentence(String words) {
        endSentence();
        sentence = words;
        sentences++;
        plain(words);
        fresh();
    }

    private static void endSentence() {
        if (!sentence.isEmpty() && checks == checksBefore) {
            fail("no check for the sentence of " + section + ": " + sentence);
        }
        sentence = "";
        checksBefore = checks;
    }

    /** Sentences of the section that name no boundary. */
    static void plain(String... all) {
        for (String words : all) {
            if (!document.cover(section, words)) {
                fail("not a sentence of " + section + ": " + words);
            }
        }
    }

    /** Sentences of the section that begin so name no boundary. */
    static void plainBeginning(String beginning) {
        document.coverBeginnings(section, beginning);
    }

    static void fresh() {
        x = new PartitionCabinet();
        done.clear();
        calls = 0;
    }

    static void check(Object got, Object due) {
        checks++;
        if (!due.equals(got)) {
            fail(section + ", \"" + sentence + "\", line " + lineOfTest() + ": " + got + ", due is " + due);
        }
    }

    /** The line of the group's own code, or, within a helper, that of the one that calls it. */
    private static int lineOfTest() {
        for (StackTraceElement frame : new Throwable().getStackTrace()) {
            if (frame.getClassName().startsWith("Boundaries") && !frame.getMethodName().startsWith("lambda")) {
                return frame.getLineNumber();
            }
        }
        return 0;
    }

    static Object answerOf(Call call, PartitionCabinet c) {
        try {
            return call.on(c);
        } catch (RuntimeException e) {
            return e.getClass();
        }
    }

    /** Makes a call, which may be several ones, and tells what it answers. */
    static Object does(Call call) {
        done.add(call);
        calls++;
        if (calls > 440) {
            fail("line " + lineOfTest() + ": too many calls of one object");
        }
        return answerOf(call, x);
    }

    static void answers(Object due, Call call) {
        check(does(call), due);
    }

    static PartitionCabinet twin() {
        PartitionCabinet c = new PartitionCabinet();
        for (Call call : done) {
            answerOf(call, c);
        }
        return c;
    }

    /** The call answers without an exception; it is not made on the object itself. */
    static void takes(Call call) {
        Object got = answerOf(call, twin());
        check(got instanceof Class ? got : "an answer", "an answer");
    }

    /** The call would answer just this; it is not made on the object itself. */
    static void wouldAnswer(Object due, Call call) {
        check(answerOf(call, twin()), due);
    }

    /** The call throws just this, and changes nothing: neither slots nor text nor what is kept. */
    static void refuses(Class<?> due, Call call) {
        PartitionCabinet c = twin();
        check(answerOf(call, c), due);
        check(trace(c), trace(twin()));
    }

    /** The checksum, and those behind each undo until none is kept. */
    static String trace(PartitionCabinet c) {
        StringBuilder told = new StringBuilder().append(c.checksum());
        for (int i = 0; i < 20; i++) {
            Object slot = answerOf(PartitionCabinet::undo, c);
            if (slot instanceof Class) {
                return told.toString();
            }
            told.append(' ').append(slot).append(':').append(c.checksum());
        }
        return told.append(" and more").toString();
    }

    static String textOf(PartitionCabinet c) {
        StringBuilder signs = new StringBuilder();
        for (int i = 0; i <= 200; i++) {
            Object sign = answerOf(placed(i), c);
            if (sign instanceof Class) {
                return signs.toString();
            }
            signs.append(sign);
        }
        return "a text that is too long";
    }

    private static Call placed(int place) {
        return c -> c.signAt(place);
    }

    static void textIs(String due) {
        check(textOf(twin()), due);
    }

    static String rowOf(PartitionCabinet c, int slot) {
        c.tell(slot);
        return textOf(c);
    }

    static void rowIs(int slot, String due) {
        check(rowOf(twin(), slot), due);
    }

    static void letterIs(int slot, char due) {
        check(answerOf(c -> c.family(slot), x), due);
    }

    static void put(String signs) {
        does(c -> {
            c.erase();
            for (char sign : signs.toCharArray()) {
                c.type(sign);
            }
            return 0;
        });
        calls += signs.length();
    }

    /** A slot becomes the figure with a row, which must be one. */
    static void hold(int slot, char family, int n, int k, String row) {
        put(row);
        answers(row.isEmpty() ? 0 : row.split(",").length, c -> c.read(slot, family, n, k));
    }

    static void make(int slot, char family, int n, int k) {
        takes(c -> c.make(slot, family, n, k));
        does(c -> c.make(slot, family, n, k));
    }

    static int least(char family) {
        return family == 't' ? 1 : 0;
    }

    static int greatest(char family) {
        return family == 'u' ? 40 : "sk".indexOf(family) >= 0 ? 25 : "bvt".indexOf(family) >= 0 ? 20 : 60;
    }

    static String countOf(char family, int n, int k) {
        PartitionCabinet c = new PartitionCabinet();
        c.count(family, n, k);
        return textOf(c);
    }

    /** One for each way to say a family: count, make, unrank, draw, read. */
    static List<FamilyCall> familyCalls() {
        return List.of((c, f, n, k) -> c.count(f, n, k), (c, f, n, k) -> c.make(3, f, n, k),
                (c, f, n, k) -> c.unrank(3, f, n, k), (c, f, n, k) -> c.draw(3, f, n, k, 5), (c, f, n, k) -> c.read(3, f, n, k));
    }

    /** No call takes this family, whatever the text and slots hold. */
    static void refusesFamily(char family, int n, int k) {
        for (FamilyCall call : familyCalls()) {
            refuses(ARGUMENT, c -> call.on(c, family, n, k));
        }
    }

    /** Each call takes the family, though there may be none in it. */
    static void takesFamily(char family, int n, int k) {
        boolean hasAny = !countOf(family, n, k).equals("0");
        for (FamilyCall call : familyCalls()) {
            Object got = answerOf(c -> call.on(c, family, n, k), twin());
            check(got instanceof Class ? got : "an answer", hasAny || !NONE.equals(got) ? "an answer" : NONE);
        }
    }

    static void takesN(char family, int k, int least, int greatest) {
        put("0");
        takesFamily(family, least, k);
        takesFamily(family, greatest, k);
        for (int n : new int[] {least - 1, greatest + 1, LEAST, GREATEST}) {
            refusesFamily(family, n, k);
        }
    }

    static void takesK(char family) {
        put("0");
        for (int n : new int[] {least(family), 2, greatest(family)}) {
            takesFamily(family, n, 0);
            takesFamily(family, n, 60);
            for (int k : new int[] {-1, 61, LEAST, GREATEST}) {
                refusesFamily(family, n, k);
            }
        }
    }

    /** The row is one of the family: it is read, and told again. */
    static void isRow(char family, int n, int k, String row) {
        fresh();
        hold(2, family, n, k, row);
        rowIs(2, row);
        letterIs(2, family);
        textIs("");
    }

    /** The row is none of the family; the fault is at a place. The text is taken away, nothing else changes. */
    static void faultAt(int place, char family, int n, int k, String row) {
        fresh();
        does(c -> c.make(2, 'a', 3, 0));
        put(row);
        PartitionCabinet c = twin();
        check(answerOf(d -> d.read(2, family, n, k), c), -1 - place);
        does(PartitionCabinet::erase);
        check(trace(c), trace(twin()));
    }

    /** The slots 0 to 9 are there, the ones beside them are not, whether slots hold figures or not. */
    static void noSuchSlot(char family, SlotCall call) {
        sentence("Throws `IndexOutOfBoundsException` if there is no such slot");
        put("0");
        for (int slot : NO_SLOTS) {
            refuses(INDEX, c -> call.on(c, slot));
        }
        fill(family);
        for (int slot = 0; slot < 10; slot++) {
            int there = slot;
            takes(c -> call.on(c, there));
        }
        for (int slot : NO_SLOTS) {
            refuses(INDEX, c -> call.on(c, slot));
        }
    }

    static void fill(char family) {
        for (int slot = 0; slot < 10; slot++) {
            make(slot, family, 4, 2);
        }
    }

    /** Each slot is refused until it holds a figure, and again if undo gives it back that it holds none. */
    static void holdsNone(char family, SlotCall call) {
        sentence("Throws `NoSuchElementException` if that slot holds none");
        for (int slot = 0; slot < 10; slot++) {
            int empty = slot;
            refuses(NONE, c -> call.on(c, empty));
        }
        make(4, family, 4, 2);
        takes(c -> call.on(c, 4));
        for (int slot : new int[] {0, 3, 5, 9}) {
            refuses(NONE, c -> call.on(c, slot));
        }
        does(PartitionCabinet::undo);
        refuses(NONE, c -> call.on(c, 4));
    }

    /** Figures of just these letters are taken, the empty row too. */
    static void unfit(String words, String letters, SlotCall call) {
        sentence(words);
        for (char family : FAMILIES.toCharArray()) {
            fresh();
            make(5, family, 4, 2);
            make(6, family, least(family), 0);
            for (int slot = 5; slot <= 6; slot++) {
                int held = slot;
                if (letters.indexOf(family) >= 0) {
                    takes(c -> call.on(c, held));
                } else {
                    refuses(UNFIT, c -> call.on(c, held));
                }
            }
        }
    }

    static void noSuchSlotForEither(char family, PairCall call) {
        sentence("Throws `IndexOutOfBoundsException` if there is no such slot, for either");
        fill(family);
        takes(c -> call.on(c, 0, 9));
        takes(c -> call.on(c, 9, 0));
        for (int slot : NO_SLOTS) {
            refuses(INDEX, c -> call.on(c, slot, 0));
            refuses(INDEX, c -> call.on(c, 9, slot));
            refuses(INDEX, c -> call.on(c, slot, slot));
        }
    }

    static void oneHoldsNone(String words, char family, PairCall call) {
        sentence(words);
        refuses(NONE, c -> call.on(c, 0, 9));
        make(0, family, 4, 2);
        refuses(NONE, c -> call.on(c, 0, 9));
        refuses(NONE, c -> call.on(c, 9, 0));
        takes(c -> call.on(c, 0, 0));
        make(9, family, 4, 2);
        takes(c -> call.on(c, 0, 9));
        does(PartitionCabinet::undo);
        refuses(NONE, c -> call.on(c, 9, 0));
    }

    static void oneUnfit(String words, String letters, PairCall call) {
        sentence(words);
        for (char family : FAMILIES.toCharArray()) {
            fresh();
            make(0, letters.charAt(0), 4, 2);
            make(1, family, 4, 2);
            if (letters.indexOf(family) >= 0) {
                takes(c -> call.on(c, 0, 1));
                takes(c -> call.on(c, 1, 0));
                takes(c -> call.on(c, 1, 1));
            } else {
                refuses(UNFIT, c -> call.on(c, 0, 1));
                refuses(UNFIT, c -> call.on(c, 1, 0));
                refuses(UNFIT, c -> call.on(c, 1, 1));
            }
        }
    }

    /** The numbers n may be no other than each other, at both ends of their range too. */
    static void unlikeN(String letters, PairCall call) {
        sentence("Throws `IllegalArgumentException` if their n are unlike");
        for (char one : letters.toCharArray()) {
            for (char other : letters.toCharArray()) {
                int last = greatest(one);
                for (int[] n : new int[][] {{0, 0}, {0, 1}, {1, 0}, {4, 4}, {4, 5}, {5, 4}, {last, last - 1},
                    {last, last}}) {
                    fresh();
                    make(0, one, n[0], Math.min(n[0], 1));
                    make(1, other, n[1], Math.min(n[1], 1));
                    if (n[0] == n[1]) {
                        takes(c -> call.on(c, 0, 1));
                    } else {
                        refuses(ARGUMENT, c -> call.on(c, 0, 1));
                    }
                }
            }
        }
    }

    /** The sentences about a family that count, make, unrank, draw and read have alike. */
    static void noSuchFamily(FamilyCall call) {
        sentence("Throws `IllegalArgumentException` if there is no such family, or a number is out of range");
        put("0");
        make(0, 'a', 3, 0);
        for (char letter : new char[] {0, ' ', 'A', 'e', 'f', 'j', 'm', 'n', 'p', 'r', 'w', 'z', '`', '{', (char) 127,
            (char) ('a' + 256), (char) 65535}) {
            refuses(ARGUMENT, c -> call.on(c, letter, 1, 1));
        }
        for (char family : FAMILIES.toCharArray()) {
            int last = greatest(family);
            for (int n : new int[] {least(family) - 1, last + 1, LEAST, GREATEST}) {
                refuses(ARGUMENT, c -> call.on(c, family, n, 1));
            }
            for (int k : new int[] {-1, 61, LEAST, GREATEST}) {
                refuses(ARGUMENT, c -> call.on(c, family, 1, k));
            }
            takes(c -> call.on(c, family, last, 1));
            takes(c -> call.on(c, family, last, "sku".indexOf(family) >= 0 ? last : 60));
            takes(c -> call.on(c, family, least(family), least(family)));
        }
    }

    /** The sentences of the document, section by section, and which of them are done with. */
    private static final class Document {
        private final Map<String, Map<String, Boolean>> sections = new LinkedHashMap<>();

        Document(List<String> lines) {
            String name = "";
            StringBuilder paragraph = new StringBuilder();
            for (String line : lines) {
                if (line.isBlank() || line.startsWith("## ") || line.startsWith("- ")) {
                    name = addParagraph(name, paragraph.toString().trim());
                    paragraph.setLength(0);
                }
                if (line.startsWith("## ")) {
                    name = line.substring(3).split(":")[0];
                } else {
                    paragraph.append(line).append(' ');
                }
            }
            addParagraph(name, paragraph.toString().trim());
            sections.remove("");
            // the face is FaceTest's
            sections.remove("The public face");
        }

        /** A paragraph of "Terms" may begin with its title, and what follows is a section of that name. */
        private String addParagraph(String name, String paragraph) {
            if (!paragraph.startsWith("<p>")) {
                addSentences(name, paragraph);
                return name;
            }
            String words = paragraph.substring(3);
            String title = words.split("\\.")[0];
            addSentences(title, words.substring(title.length() + 1));
            return title;
        }

        /** Without what stands ahead of the words: the sign of a list, a signature or a parameter's name. */
        private void addSentences(String name, String paragraph) {
            String words = paragraph.replaceFirst("^- ", "").replaceFirst("^`[^`]*`: ", "");
            for (String each : words.split("(?<=\\.)\\s+")) {
                if (!each.isBlank()) {
                    sections.computeIfAbsent(name, key -> new LinkedHashMap<>()).put(each.trim(), false);
                }
            }
        }

        boolean hasSection(String name) {
            return sections.containsKey(name);
        }

        boolean cover(String name, String words) {
            return hasSection(name) && sections.get(name).replace(words, true) != null;
        }

        void coverBeginnings(String name, String beginning) {
            for (String words : sections.get(name).keySet()) {
                if (words.startsWith(beginning)) {
                    cover(name, words);
                }
            }
        }

        Set<String> sentencesLeft(String name) {
            Set<String> left = new LinkedHashSet<>();
            for (Map.Entry<String, Boolean> each : sections.getOrDefault(name, Map.of()).entrySet()) {
                if (!each.getValue()) {
                    left.add(each.getKey());
                }
            }
            return left;
        }
    }
}
