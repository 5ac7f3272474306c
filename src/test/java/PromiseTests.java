import java.util.NoSuchElementException;

/** At least one test for each promise: ordinary inputs, the edges that the document names, wrong inputs. */
public final class PromiseTests {

    private static final Class<?> INDEX = IndexOutOfBoundsException.class;
    private static final Class<?> ARGUMENT = IllegalArgumentException.class;
    private static final Class<?> NUMBER = NumberFormatException.class;
    private static final Class<?> STATE = IllegalStateException.class;
    private static final Class<?> NONE = NoSuchElementException.class;
    private static final Class<?> UNFIT = UnsupportedOperationException.class;
    private static final int[] NO_SLOTS = {-1, 10, Integer.MIN_VALUE, Integer.MAX_VALUE};
    private static final String FAMILIES = "algdoskubvtc";

    private static int passed = 0;
    private static int failed = 0;
    private static int promise = 0;
    private static PartitionCabinet x;

    interface Call {
        Object answer();
    }

    public static void main(String[] args) {
        newObject();
        count();
        make();
        unrank();
        draw();
        read();
        copy();
        tell();
        rank();
        next();
        previous();
        skip();
        compare();
        family();
        length();
        at();
        undo();
        type();
        erase();
        signAt();
        turn();
        square();
        excess();
        crank();
        match();
        often();
        hook();
        fillings();
        isOver();
        blocks();
        join();
        meet();
        isFiner();
        door();
        doorRank();
        branch();
        deepest();
        triangles();
        degree();
        far();
        tables();
        corner();
        isBinary();
        held();
        checksum();
        isSound();
        System.out.println("PromiseTests: " + passed + " passed, " + failed + " failed");
        if (failed > 0) {
            System.exit(1);
        }
    }

    private static void begin(int number) {
        promise = number;
        x = new PartitionCabinet();
    }

    private static void due(String what, Object got, Object want) {
        if (got.equals(want)) {
            passed++;
        } else {
            failed++;
            System.out.println("promise " + promise + ": " + what + " is " + got + ", due is " + want);
        }
    }

    /** The call throws just this, and changes nothing, neither slots nor text nor what is kept. */
    private static void fails(String what, Class<?> due, Call call) {
        long sum = x.checksum();
        Object got;
        try {
            got = call.answer();
        } catch (RuntimeException e) {
            got = e.getClass();
        }
        due(what, got, due);
        due("the checksum behind " + what, x.checksum(), sum);
    }

    private static String text() {
        StringBuilder signs = new StringBuilder();
        try {
            for (int i = 0; i < 1000; i++) {
                signs.append(x.signAt(i));
            }
        } catch (IllegalArgumentException e) {
            return signs.toString();
        }
        return "a text without an end";
    }

    private static void put(String signs) {
        x.erase();
        for (char sign : signs.toCharArray()) {
            x.type(sign);
        }
    }

    /** The row in a slot, told through the text, which is put back. */
    private static String row(int slot) {
        String was = text();
        x.tell(slot);
        String told = text();
        put(was);
        return told;
    }

    private static int read(int slot, char family, int n, int k, String signs) {
        put(signs);
        return x.read(slot, family, n, k);
    }

    private static void hold(int slot, char family, int n, int k, String signs) {
        if (read(slot, family, n, k, signs) < 0) {
            due("a row " + signs + " of " + family, "no row", "a row");
        }
    }

    private static String counted(char family, int n, int k) {
        int signs = x.count(family, n, k);
        String told = text();
        due("how many signs " + told + " has", signs, told.length());
        return told;
    }

    /** Slot 0 and slot 1 hold a figure each; slots without a number and slot 9, which holds none, are refused. */
    private interface Slotted {
        Object answer(int slot);
    }

    private static void refusesSlots(String what, Slotted call) {
        for (int slot : NO_SLOTS) {
            fails(what + " of slot " + slot, INDEX, () -> call.answer(slot));
        }
        fails(what + " of an empty slot", NONE, () -> call.answer(9));
    }

    /** A figure of each family that is none of the letters is refused, in slot 8. */
    private static void refusesOthers(String what, String letters, Slotted call) {
        for (char family : FAMILIES.toCharArray()) {
            if (letters.indexOf(family) < 0) {
                x.make(8, family, 4, 2);
                fails(what + " of a figure of " + family, UNFIT, () -> call.answer(8));
            }
        }
    }

    private interface Familied {
        Object answer(char family, int n, int k);
    }

    private static void refusesFamilies(String what, Familied call) {
        char[] none = {'A', 'e', 'z', 0, ' ', (char) 353, (char) 65535};
        for (char family : none) {
            fails(what + " of " + (int) family, ARGUMENT, () -> call.answer(family, 1, 1));
        }
        int[] greatest = {60, 60, 60, 60, 60, 25, 25, 40, 20, 20, 20, 60};
        int[] odd = {-1, Integer.MIN_VALUE, Integer.MAX_VALUE};
        for (int i = 0; i < FAMILIES.length(); i++) {
            char family = FAMILIES.charAt(i);
            int above = greatest[i] + 1;
            fails(what + " of " + family + above, ARGUMENT, () -> call.answer(family, above, 1));
            fails(what + " of " + family + " k 61", ARGUMENT, () -> call.answer(family, 1, 61));
            for (int number : odd) {
                fails(what + " of " + family + number, ARGUMENT, () -> call.answer(family, number, 1));
                fails(what + " of " + family + " k " + number, ARGUMENT, () -> call.answer(family, 1, number));
            }
        }
        fails(what + " of t0", ARGUMENT, () -> call.answer('t', 0, 0));
    }

    private static void newObject() {
        begin(1);
        for (int slot = 0; slot < 10; slot++) {
            int asked = slot;
            fails("length of slot " + slot, NONE, () -> x.length(asked));
        }
        due("held", x.held(), 0);
        due("the text", text(), "");
        fails("undo", NONE, () -> x.undo());
        PartitionCabinet other = new PartitionCabinet();
        other.make(0, 'a', 3, 0);
        other.type('1');
        due("held beside another cabinet", x.held(), 0);
        due("the text beside another cabinet", text(), "");
    }

    private static void count() {
        begin(2);
        due("a0", counted('a', 0, 0), "1");
        due("a10", counted('a', 10, 60), "42");
        due("a60", counted('a', 60, 0), "966467");
        due("l10,3", counted('l', 10, 3), "14");
        due("g10,3", counted('g', 10, 3), "14");
        due("l60,60", counted('l', 60, 60), "966467");
        due("g60,30", counted('g', 60, 30), counted('l', 60, 30));
        due("l0,0", counted('l', 0, 0), "1");
        due("l3,0", counted('l', 3, 0), "0");
        due("g3,0", counted('g', 3, 0), "0");
        due("d10", counted('d', 10, 0), "10");
        due("o10", counted('o', 10, 0), "10");
        due("d60", counted('d', 60, 0), "10880");
        due("o60", counted('o', 60, 0), "10880");
        due("s0", counted('s', 0, 0), "1");
        due("s5", counted('s', 5, 7), "52");
        due("s25", counted('s', 25, 0), "4638590332229999353");
        due("k5,3", counted('k', 5, 3), "25");
        due("k0,0", counted('k', 0, 0), "1");
        due("k0,1", counted('k', 0, 1), "0");
        due("k3,0", counted('k', 3, 0), "0");
        due("k25,10", counted('k', 25, 10), "1203163392175387500");
        due("k25,60", counted('k', 25, 60), "0");
        due("u40,20", counted('u', 40, 20), "137846528820");
        due("u5,0", counted('u', 5, 0), "1");
        due("u3,4", counted('u', 3, 4), "0");
        due("b0", counted('b', 0, 0), "1");
        due("b20", counted('b', 20, 0), "6564120420");
        due("v20", counted('v', 20, 60), "6564120420");
        due("v0", counted('v', 0, 0), "1");
        due("t1", counted('t', 1, 0), "1");
        due("t2", counted('t', 2, 0), "1");
        due("t3", counted('t', 3, 0), "3");
        due("t20", counted('t', 20, 0), "262144000000000000000000");
        due("c0,0", counted('c', 0, 0), "1");
        due("c5,0", counted('c', 5, 0), "0");
        due("c0,5", counted('c', 0, 5), "0");
        due("c5,2", counted('c', 5, 2), "4");
        due("c60,30", counted('c', 60, 30), "59132290782430712");
        refusesFamilies("count", (f, n, k) -> x.count(f, n, k));
        fails("undo: count is not kept", NONE, () -> x.undo());
    }

    private static void make() {
        begin(3);
        String[] told = {"a4,2 1,1,1,1", "l4,2 2,2", "g4,2 1,1,1,1", "d4,2 3,1", "o4,2 1,1,1,1", "s4,2 0,0,0,0",
            "k4,2 0,0,0,1", "u4,2 0,1", "b4,2 0,0,0,0,1,1,1,1", "v4,2 1,0,1,0,1,0,1,0,0", "t4,2 0,0", "c4,2 1,3"};
        for (String each : told) {
            char family = each.charAt(0);
            String first = each.substring(5);
            due("make " + each, x.make(1, family, 4, 2), first.split(",").length);
            due("the first of " + family, row(1), first);
            due("its letter", x.family(1), family);
        }
        char[] empty = {'a', 'l', 'g', 'd', 'o', 's', 'k', 'u', 'b', 'c'};
        for (char family : empty) {
            due("make " + family + "0,0", x.make(2, family, 0, 0), 0);
        }
        due("make u4,0", x.make(2, 'u', 4, 0), 0);
        due("make t1", x.make(2, 't', 1, 5), 0);
        due("make t2", x.make(2, 't', 2, 5), 0);
        due("make v0", x.make(2, 'v', 0, 5), 1);
        due("make a60", x.make(0, 'a', 60, 0), 60);
        put("12");
        fails("make l1,0", NONE, () -> x.make(0, 'l', 1, 0));
        fails("make g1,0", NONE, () -> x.make(0, 'g', 1, 0));
        fails("make d2", ARGUMENT, () -> x.make(0, 'D', 2, 0));
        fails("make k3,4", NONE, () -> x.make(0, 'k', 3, 4));
        fails("make u3,4", NONE, () -> x.make(0, 'u', 3, 4));
        fails("make c3,4", NONE, () -> x.make(0, 'c', 3, 4));
        fails("make c0,1", NONE, () -> x.make(0, 'c', 0, 1));
        for (int slot : NO_SLOTS) {
            fails("make in " + slot, INDEX, () -> x.make(slot, 'x', -1, -1));
        }
        refusesFamilies("make", (f, n, k) -> x.make(0, f, n, k));
        due("the text behind make", text(), "12");
        due("what a fault keeps: undo gives the latest make", x.undo(), 0);
    }

    private static void unrank() {
        begin(4);
        put("3");
        due("unrank 3 of a5", x.unrank(0, 'a', 5, 0), 3);
        due("its row", row(0), "3,1,1");
        due("the text behind it", text(), "");
        put("+0000000000000000000000000000000000000006");
        due("unrank +6 of a5", x.unrank(0, 'a', 5, 0), 1);
        due("its row", row(0), "5");
        put("-0");
        due("unrank -0", x.unrank(0, 'a', 5, 0), 5);
        put("4638590332229999352");
        due("unrank the last of s25", x.unrank(1, 's', 25, 0), 25);
        due("its row", row(1), "0,1,2,3,4,5,6,7,8,9,10,11,12,13,14,15,16,17,18,19,20,21,22,23,24");
        put("262143999999999999999999");
        due("unrank the last of t20", x.unrank(1, 't', 20, 0), 18);
        due("its row", row(1), "19,19,19,19,19,19,19,19,19,19,19,19,19,19,19,19,19,19");
        put("0");
        due("unrank 0 of t1", x.unrank(1, 't', 1, 0), 0);
        put("0");
        due("unrank 0 of t2", x.unrank(1, 't', 2, 0), 0);
        String[] wrong = {"", "+", "-", "+-1", "1+", " 1", "1 ", "1,2", "a", "1a", "--1", "0x1", "1.0", "/", ":"};
        for (String signs : wrong) {
            put(signs);
            fails("unrank of '" + signs + "'", NUMBER, () -> x.unrank(0, 'a', 5, 0));
            fails("unrank of '" + signs + "' of no family", NUMBER, () -> x.unrank(0, 'x', 5, 0));
            fails("unrank of '" + signs + "' in no slot", INDEX, () -> x.unrank(10, 'x', 5, 0));
        }
        String[] none = {"7", "-1", "-7", "9".repeat(200), "18446744073709551616", "9223372036854775807", "9223372036854775808"};
        for (String signs : none) {
            put(signs);
            fails("unrank of " + signs, NONE, () -> x.unrank(0, 'a', 5, 0));
        }
        put("262144000000000000000000");
        fails("unrank behind the last of t20", NONE, () -> x.unrank(0, 't', 20, 0));
        put("-1");
        fails("unrank -1 of t20", NONE, () -> x.unrank(0, 't', 20, 0));
        put("1");
        fails("unrank 1 of t2", NONE, () -> x.unrank(0, 't', 2, 0));
        put("4638590332229999353");
        fails("unrank behind the last of s25", NONE, () -> x.unrank(0, 's', 25, 0));
        put("0");
        fails("unrank of a family without any", NONE, () -> x.unrank(0, 'l', 5, 0));
        refusesFamilies("unrank", (f, n, k) -> x.unrank(0, f, n, k));
        for (int slot : NO_SLOTS) {
            fails("unrank in " + slot, INDEX, () -> x.unrank(slot, 'a', 5, 0));
        }
        due("the text is left", text(), "0");
    }

    private static void draw() {
        begin(5);
        put("t");
        due("draw 0", x.draw(0, 'a', 5, 0, 0), 5);
        due("draw 8 of 7", x.draw(0, 'a', 5, 0, 8), 4);
        due("its row", row(0), "2,1,1,1");
        due("draw -1", x.draw(0, 'a', 5, 0, -1), 1);
        due("its row", row(0), "5");
        due("draw -7", x.draw(0, 'a', 5, 0, -7), 5);
        due("draw the least long", x.draw(0, 'a', 5, 0, Long.MIN_VALUE), 1);
        due("its row", row(0), "5");
        due("draw the greatest long", x.draw(0, 'a', 5, 0, Long.MAX_VALUE), 5);
        due("draw -1 of s25", x.draw(1, 's', 25, 0, -1), 25);
        due("its blocks", x.blocks(1), 25);
        due("draw -1 of t20", x.draw(1, 't', 20, 0, -1), 18);
        due("its row", row(1), "19,19,19,19,19,19,19,19,19,19,19,19,19,19,19,19,19,19");
        due("draw the least long of t20", x.draw(1, 't', 20, 0, Long.MIN_VALUE), 18);
        x.rank(1);
        due("its rank", text(), "262134776627963145224192");
        put("t");
        due("draw 5 of t1", x.draw(1, 't', 1, 0, 5), 0);
        due("draw -5 of v0", x.draw(1, 'v', 0, 0, -5), 1);
        fails("draw of none", NONE, () -> x.draw(0, 'c', 5, 6, 0));
        fails("draw of none", NONE, () -> x.draw(0, 'k', 5, 6, -9));
        refusesFamilies("draw", (f, n, k) -> x.draw(0, f, n, k, 1));
        for (int slot : NO_SLOTS) {
            fails("draw in " + slot, INDEX, () -> x.draw(slot, 'x', 5, 0, 1));
        }
        due("the text behind draw", text(), "t");
    }

    private static void read() {
        begin(6);
        String[] rows = {"a3,1,1", "l3,2", "g1,1,1,1,1", "d4,1", "o3,1,1", "s0,1,0,2,1", "b0,1,0,0,1,1,0,1,0,1",
            "v1,1,0,0,1,0,1,1,0,0,0", "t4,0,4"};
        for (String each : rows) {
            String signs = each.substring(1);
            due("read " + each, read(0, each.charAt(0), 5, 2, signs), signs.split(",").length);
            due("the row read of " + each, row(0), signs);
            due("the text behind read", text(), "");
        }
        due("read k", read(0, 'k', 5, 3, "0,1,0,2,1"), 5);
        due("read u", read(0, 'u', 5, 2, "1,4"), 2);
        due("read c", read(0, 'c', 5, 2, "1,4"), 2);
        due("read with digits 0 ahead", read(0, 'a', 5, 0, "0003,000000000000000000000000002"), 2);
        due("its row", row(0), "3,2");
        due("read the empty row", read(0, 'a', 0, 0, ""), 0);
        due("read the empty row of t2", read(0, 't', 2, 0, ""), 0);
        due("read the row of v0", read(0, 'v', 0, 0, "0"), 1);
        due("read one part of 60", read(0, 'a', 60, 0, "60"), 1);
        x.make(0, 'a', 5, 0);
        long sum = x.checksum();
        Object[][] faults = {
            {'a', 5, 0, "", 0}, {'a', 5, 0, "6", 0}, {'a', 5, 0, "0", 0}, {'a', 5, 0, "3", 1}, {'a', 5, 0, "3,", 2},
            {'a', 5, 0, "3,3", 2}, {'a', 5, 0, "2,3", 2}, {'a', 5, 0, "3,1,1,", 5}, {'a', 5, 0, "5 ", 1}, {'a', 5, 0, "5,", 1},
            {'a', 5, 0, ",5", 0}, {'a', 5, 0, " 5", 0}, {'a', 5, 0, "3,,2", 2}, {'a', 5, 0, "3 ,2", 1}, {'a', 5, 0, "3, 2", 2},
            {'a', 5, 0, "+5", 0}, {'a', 5, 0, "-5", 0}, {'a', 5, 0, "52x", 0}, {'a', 5, 0, "3;2", 1}, {'a', 5, 0, "x", 0},
            {'a', 5, 0, "99999999999999999999999", 0}, {'a', 5, 0, "4294967301", 0}, {'a', 5, 0, "18446744073709551621", 0},
            {'a', 0, 0, "0", 0}, {'a', 0, 0, ",", 0}, {'a', 0, 0, "x", 0}, {'l', 5, 2, "2,2,1", 0}, {'l', 5, 2, "3,1,1", 2},
            {'l', 5, 0, "5", 0}, {'l', 5, 0, "", 0}, {'g', 5, 2, "3,2", 0}, {'g', 5, 2, "2,2,1,", 5}, {'d', 5, 0, "2,2,1", 0},
            {'d', 5, 0, "3,1,1", 2}, {'o', 5, 0, "3,2", 2}, {'o', 5, 0, "4,1", 0}, {'s', 3, 0, "1", 0}, {'s', 3, 0, "0,2", 2},
            {'s', 3, 0, "0,1,3", 4}, {'s', 3, 0, "0,1", 3}, {'s', 3, 0, "0,1,2,", 5}, {'s', 0, 0, "0", 0}, {'k', 3, 2, "0,0,0", 4},
            {'k', 3, 3, "0,0", 2}, {'k', 3, 2, "0,1,2", 4}, {'k', 0, 1, "", 0}, {'k', 0, 0, "0", 0}, {'u', 5, 2, "4", 0},
            {'u', 5, 2, "3,3", 2}, {'u', 5, 2, "3,2", 2}, {'u', 5, 2, "3,5", 2}, {'u', 5, 2, "3,4,5", 3}, {'u', 3, 4, "", 0},
            {'b', 2, 0, "1", 0}, {'b', 2, 0, "0,0,0", 4}, {'b', 2, 0, "0,1,1", 4}, {'b', 2, 0, "0,1,0", 5}, {'b', 2, 0, "0,1,0,2", 6},
            {'v', 2, 0, "0", 0}, {'v', 2, 0, "1,0,0", 4}, {'v', 2, 0, "1,0,1,0,1", 8}, {'v', 2, 0, "1,1,0,0,0,0", 9}, {'v', 0, 0, "1", 0},
            {'v', 0, 0, "", 0}, {'t', 4, 0, "4", 0}, {'t', 4, 0, "3,4", 2}, {'t', 4, 0, "3,3,3", 3}, {'t', 2, 0, "0", 0},
            {'c', 5, 2, "5", 0}, {'c', 5, 2, "0,5", 0}, {'c', 5, 2, "2,2", 2}, {'c', 5, 2, "2,3,0", 3}, {'c', 0, 2, "", 0}, {'c', 3, 0, "", 0},
        };
        for (Object[] fault : faults) {
            due("read " + fault[0] + fault[1] + "," + fault[2] + " of '" + fault[3] + "'",
                    read(0, (Character) fault[0], (Integer) fault[1], (Integer) fault[2], (String) fault[3]), -1 - (Integer) fault[4]);
            due("the checksum behind a fault, with the text taken away", x.checksum(), sum);
        }
        due("a fault is not kept: undo", x.undo(), 0);
        due("what undo gives", row(0), "60");
        put("5");
        refusesFamilies("read", (f, n, k) -> x.read(0, f, n, k));
        for (int slot : NO_SLOTS) {
            fails("read in " + slot, INDEX, () -> x.read(slot, 'x', 5, 0));
        }
        due("the text is left with an exception", text(), "5");
    }

    private static void copy() {
        begin(7);
        hold(0, 'u', 9, 3, "2,4,7");
        due("copy", x.copy(1, 0), 3);
        due("the row copied", row(1), "2,4,7");
        due("the families", x.compare(0, 1), 0);
        x.next(0);
        due("the copy stays", row(1), "2,4,7");
        due("copy to itself", x.copy(1, 1), 3);
        due("the row behind it", row(1), "2,4,7");
        due("copy to itself is kept: undo", x.undo(), 1);
        due("the row behind undo", row(1), "2,4,7");
        refusesSlots("copy from", slot -> x.copy(0, slot));
        for (int slot : NO_SLOTS) {
            fails("copy to " + slot, INDEX, () -> x.copy(slot, 9));
        }
    }

    private static void tell() {
        begin(8);
        hold(0, 'd', 60, 0, "22,20,18");
        put("was there");
        due("tell", x.tell(0), 8);
        due("the text", text(), "22,20,18");
        x.make(1, 'a', 60, 0);
        due("tell 60 ones", x.tell(1), 119);
        x.make(1, 'b', 0, 0);
        due("tell the empty row", x.tell(1), 0);
        due("the text", text(), "");
        x.draw(1, 'u', 40, 40, 0);
        due("tell 40 things", x.tell(1), 109);
        refusesSlots("tell", slot -> x.tell(slot));
    }

    private static void rank() {
        begin(9);
        hold(0, 'a', 5, 0, "3,1,1");
        put("was there");
        due("rank", x.rank(0), 1);
        due("the text", text(), "3");
        x.draw(1, 's', 25, 0, -1);
        due("rank of the last of s25", x.rank(1), 19);
        due("the text", text(), "4638590332229999352");
        x.draw(1, 't', 20, 0, -2);
        due("rank of the last but one of t20", x.rank(1), 24);
        due("the text", text(), "262143999999999999999998");
        x.make(1, 't', 1, 0);
        due("rank of t1", x.rank(1), 1);
        due("the text", text(), "0");
        hold(1, 'v', 3, 0, "1,1,0,1,0,0,0");
        x.rank(1);
        due("rank of branches", text(), "3");
        hold(1, 'l', 7, 3, "4,2,1");
        x.rank(1);
        due("rank among few parts", text(), "2");
        refusesSlots("rank", slot -> x.rank(slot));
    }

    private static void next() {
        begin(10);
        x.make(0, 'a', 5, 0);
        String[] order = {"2,1,1,1", "2,2,1", "3,1,1", "3,2", "4,1", "5"};
        for (String row : order) {
            due("next to " + row, x.next(0), true);
            due("the row", row(0), row);
        }
        due("next of the last", x.next(0), false);
        due("the row behind it", row(0), "1,1,1,1,1");
        x.make(1, 'c', 0, 0);
        due("next of one alone", x.next(1), false);
        x.make(1, 'v', 0, 0);
        due("next of one alone", x.next(1), false);
        due("its row", row(1), "0");
        hold(1, 't', 4, 0, "2,3");
        due("next of 2,3", x.next(1), true);
        due("its row", row(1), "3,0");
        x.draw(1, 't', 20, 0, -1);
        due("next of the last of t20", x.next(1), false);
        x.draw(1, 's', 25, 0, -1);
        due("next of the last of s25", x.next(1), false);
        due("its first block", x.blocks(1), 1);
        due("undo of next", x.undo(), 1);
        due("what is back", x.blocks(1), 25);
        refusesSlots("next", slot -> x.next(slot));
    }

    private static void previous() {
        begin(11);
        x.make(0, 'd', 6, 0);
        due("previous of the first", x.previous(0), false);
        due("the row behind it", row(0), "6");
        String[] order = {"5,1", "4,2", "3,2,1"};
        for (String row : order) {
            due("previous to " + row, x.previous(0), true);
            due("the row", row(0), row);
        }
        x.make(1, 's', 0, 0);
        due("previous of one alone", x.previous(1), false);
        x.make(1, 't', 20, 0);
        due("previous of the first of t20", x.previous(1), false);
        due("its last", x.at(1, 17), 19);
        due("previous of the last of t20", x.previous(1), true);
        due("its last", x.at(1, 17), 18);
        due("undo of previous", x.undo(), 1);
        due("its last again", x.at(1, 17), 19);
        refusesSlots("previous", slot -> x.previous(slot));
    }

    private static void skip() {
        begin(12);
        x.make(0, 'a', 5, 0);
        due("skip 2", x.skip(0, 2), 2);
        due("the row", row(0), "2,2,1");
        due("skip -3", x.skip(0, -3), 5);
        due("skip 0", x.skip(0, 0), 5);
        due("skip 7000000000000000001", x.skip(0, 7000000000000000001L), 1);
        due("the row", row(0), "1,1,1,1,1");
        due("skip the least long", x.skip(0, Long.MIN_VALUE), 5);
        x.draw(1, 's', 25, 0, -1);
        due("skip from near the end", x.skip(1, 4638590332229999352L), 0);
        x.rank(1);
        due("the rank", text(), "4638590332229999351");
        x.skip(1, Long.MAX_VALUE);
        x.rank(1);
        due("the rank", text(), "4584781704624776452");
        x.make(1, 't', 20, 0);
        due("skip the least long in t20", x.skip(1, Long.MIN_VALUE), 19);
        x.rank(1);
        due("the rank", text(), "262134776627963145224192");
        due("skip back", x.skip(1, Long.MAX_VALUE), 19);
        x.rank(1);
        due("the rank", text(), "262143999999999999999999");
        x.make(1, 'a', 0, 0);
        due("skip of the empty row", x.skip(1, 5), -1);
        due("undo of skip", x.undo(), 1);
        refusesSlots("skip", slot -> x.skip(slot, 1));
    }

    private static void compare() {
        begin(13);
        hold(0, 'a', 6, 1, "4,1,1");
        hold(1, 'a', 6, 1, "4,2");
        due("ahead", x.compare(0, 1), -1);
        due("behind", x.compare(1, 0), 1);
        due("the same", x.compare(1, 1), 0);
        x.make(2, 'a', 6, 2);
        fails("unlike k", ARGUMENT, () -> x.compare(0, 2));
        x.make(2, 'a', 5, 1);
        fails("unlike n", ARGUMENT, () -> x.compare(0, 2));
        x.make(2, 'd', 6, 1);
        fails("unlike letters", ARGUMENT, () -> x.compare(2, 0));
        refusesSlots("compare", slot -> x.compare(slot, 0));
        refusesSlots("compare", slot -> x.compare(0, slot));
        fails("compare of none with no slot", INDEX, () -> x.compare(9, 10));
        x.make(3, 'u', 0, 0);
        due("empty rows", x.compare(3, 3), 0);
    }

    private static void family() {
        begin(14);
        for (char family : FAMILIES.toCharArray()) {
            x.make(0, family, 4, 3);
            due("family", x.family(0), family);
        }
        refusesSlots("family", slot -> x.family(slot));
    }

    private static void length() {
        begin(15);
        int[] lengths = {4, 2, 4, 2, 4, 4, 4, 3, 8, 9, 2, 3};
        for (int i = 0; i < FAMILIES.length(); i++) {
            x.make(0, FAMILIES.charAt(i), 4, 3);
            due("length in " + FAMILIES.charAt(i), x.length(0), FAMILIES.charAt(i) == 'l' ? 3 : lengths[i]);
        }
        x.make(0, 'c', 0, 0);
        due("length of the empty row", x.length(0), 0);
        refusesSlots("length", slot -> x.length(slot));
    }

    private static void at() {
        begin(16);
        hold(0, 'u', 30, 3, "7,19,28");
        due("at 0", x.at(0, 0), 7);
        due("at 2", x.at(0, 2), 28);
        fails("at -1", NONE, () -> x.at(0, -1));
        fails("at 3", NONE, () -> x.at(0, 3));
        fails("at the least", NONE, () -> x.at(0, Integer.MIN_VALUE));
        fails("at the greatest", NONE, () -> x.at(0, Integer.MAX_VALUE));
        x.make(1, 'a', 0, 0);
        fails("at 0 of the empty row", NONE, () -> x.at(1, 0));
        refusesSlots("at", slot -> x.at(slot, 0));
        fails("at -1 of no slot", INDEX, () -> x.at(10, -1));
    }

    private static void undo() {
        begin(17);
        fails("undo of nothing", NONE, () -> x.undo());
        x.make(3, 'a', 3, 0);
        due("undo", x.undo(), 3);
        fails("length of what was none", NONE, () -> x.length(3));
        fails("undo is not kept", NONE, () -> x.undo());
        keepsTwelve();
        keepsEach();
    }

    private static void keepsTwelve() {
        for (int i = 0; i < 15; i++) {
            x.make(i % 10, 'a', i, 0);
        }
        long sum = x.checksum();
        for (int i = 14; i > 2; i--) {
            due("undo " + i, x.undo(), i % 10);
        }
        fails("undo of the thirteenth", NONE, () -> x.undo());
        due("held behind twelve of fifteen", x.held(), 3);
        for (int i = 3; i < 15; i++) {
            x.make(i % 10, 'a', i, 0);
        }
        due("the same again", x.checksum(), sum);
    }

    /** Each call that lets a slot become something is kept, the others are not, nor is the text. */
    private static void keepsEach() {
        begin(17);
        x.make(0, 'd', 6, 0);
        x.make(1, 's', 6, 0);
        x.make(2, 'u', 6, 6);
        x.make(3, 'b', 6, 0);
        x.make(4, 'a', 1, 0);
        Call[] calls = {() -> x.make(4, 'a', 1, 0), () -> x.draw(4, 'a', 1, 0, 5), () -> x.copy(4, 4), () -> x.next(4),
            () -> x.previous(4), () -> x.skip(4, 3), () -> x.turn(4), () -> x.match(0), () -> x.join(1, 1, 1),
            () -> x.meet(1, 1, 1), () -> x.door(2), () -> x.branch(3), () -> unrankInto(4), () -> read(4, 'a', 1, 0, "1")};
        int[] slots = {4, 4, 4, 4, 4, 4, 4, 0, 1, 1, 2, 3, 4, 4};
        for (int i = 0; i < calls.length; i++) {
            long sum = x.checksum();
            x.make(9, 'a', 1, 0);
            calls[i].answer();
            String was = text();
            due("undo of call " + i, x.undo(), slots[i]);
            due("the text is not kept", text(), was);
            due("the undo ahead of it", x.undo(), 9);
            x.erase();
            due("the checksum behind both", x.checksum(), sum);
        }
        x.make(9, 'a', 1, 0);
        Call[] others = {() -> x.count('a', 5, 0), () -> x.tell(1), () -> x.rank(1), () -> x.compare(1, 1), () -> x.type('a'),
            () -> x.erase(), () -> x.fillings(0), () -> x.doorRank(2), () -> x.tables(4, 4), () -> x.isSound(), () -> x.isBinary(0, 0),
            () -> x.checksum(), () -> read(4, 'a', 9, 0, "x")};
        for (Call call : others) {
            call.answer();
        }
        due("calls that are not kept", x.undo(), 9);
    }

    private static Object unrankInto(int slot) {
        put("0");
        return x.unrank(slot, 'a', 1, 0);
    }

    private static void type() {
        begin(18);
        due("type the first sign", x.type(' '), 1);
        due("type the last sign", x.type('~'), 2);
        due("the text", text(), " ~");
        char[] wrong = {0, 10, 31, 127, 160, (char) 32 + 256, (char) 65535};
        for (char sign : wrong) {
            fails("type " + (int) sign, ARGUMENT, () -> x.type(sign));
        }
        for (int i = 3; i <= 200; i++) {
            due("type " + i, x.type((char) ('0' + i % 10)), i);
        }
        fails("type in the full text", STATE, () -> x.type('a'));
        fails("type no sign in the full text", ARGUMENT, () -> x.type((char) 31));
        due("its last sign", x.signAt(199), '0');
    }

    private static void erase() {
        begin(19);
        due("erase of nothing", x.erase(), 0);
        put("a text");
        due("erase", x.erase(), 6);
        due("the text", text(), "");
        due("erase again", x.erase(), 0);
    }

    private static void signAt() {
        begin(20);
        fails("signAt 0 of the empty text", ARGUMENT, () -> x.signAt(0));
        put("xyz");
        due("signAt 0", x.signAt(0), 'x');
        due("signAt 2", x.signAt(2), 'z');
        fails("signAt 3", ARGUMENT, () -> x.signAt(3));
        fails("signAt -1", ARGUMENT, () -> x.signAt(-1));
        fails("signAt the greatest", ARGUMENT, () -> x.signAt(Integer.MAX_VALUE));
        fails("signAt the least", ARGUMENT, () -> x.signAt(Integer.MIN_VALUE));
        x.erase();
        fails("signAt 0 behind erase", ARGUMENT, () -> x.signAt(0));
    }

    private static void turn() {
        begin(21);
        hold(0, 'a', 8, 5, "4,3,1");
        due("turn", x.turn(0), 3);
        due("the row", row(0), "3,2,2,1");
        due("turn back", x.turn(0), 4);
        due("the row", row(0), "4,3,1");
        hold(0, 'l', 8, 3, "4,3,1");
        x.turn(0);
        due("l becomes", x.family(0), 'g');
        x.make(1, 'g', 8, 3);
        due("with the same n and k", x.compare(1, 0), -1);
        x.turn(0);
        due("g becomes", x.family(0), 'l');
        hold(0, 'd', 8, 2, "5,3");
        x.turn(0);
        due("d becomes", x.family(0), 'a');
        due("the row", row(0), "2,2,2,1,1");
        hold(0, 'o', 8, 2, "5,3");
        x.turn(0);
        due("o becomes", x.family(0), 'a');
        x.make(1, 'a', 8, 2);
        due("with the same n and k", x.compare(1, 0), -1);
        x.make(0, 'd', 0, 0);
        due("turn without parts", x.turn(0), 0);
        due("d becomes", x.family(0), 'a');
        x.make(0, 'a', 60, 0);
        due("turn 60 ones", x.turn(0), 60);
        due("undo of turn", x.undo(), 0);
        due("the row", x.length(0), 60);
        refusesSlots("turn", slot -> x.turn(slot));
        refusesOthers("turn", "algdo", slot -> x.turn(slot));
    }

    private static void square() {
        begin(22);
        String[][] told = {{"1", "1"}, {"1,1", "1"}, {"2", "1"}, {"2,1", "1"}, {"2,2", "2"}, {"3,2,1", "2"}, {"3,3,3", "3"},
            {"5,5,2,1", "2"}, {"9,9,3,3", "3"}, {"6,5,4,4,1", "4"}};
        for (String[] each : told) {
            int n = sumOf(each[0]);
            hold(0, 'a', n, 0, each[0]);
            due("square of " + each[0], x.square(0), Integer.parseInt(each[1]));
        }
        x.make(0, 'o', 0, 0);
        due("square without parts", x.square(0), 0);
        refusesSlots("square", slot -> x.square(slot));
        refusesOthers("square", "algdo", slot -> x.square(slot));
    }

    private static int sumOf(String row) {
        int sum = 0;
        for (String number : row.split(",")) {
            sum += Integer.parseInt(number);
        }
        return sum;
    }

    private static void excess() {
        begin(23);
        hold(0, 'a', 9, 0, "6,2,1");
        due("excess", x.excess(0), 3);
        x.turn(0);
        due("excess, turned", x.excess(0), -3);
        x.make(0, 'l', 0, 0);
        due("excess without parts", x.excess(0), 0);
        x.make(0, 'a', 60, 0);
        due("excess of 60 ones", x.excess(0), -59);
        refusesSlots("excess", slot -> x.excess(slot));
        refusesOthers("excess", "algdo", slot -> x.excess(slot));
    }

    private static void crank() {
        begin(24);
        Object[][] told = {{"5,3,2", 5}, {"1", -1}, {"1,1", -2}, {"2,1", 0}, {"3,1", 0}, {"3,2,1", 1}, {"5,3,2,1,1", 0},
            {"2,2,1,1", -2}, {"6", 6}, {"4,4,4,1", 2}};
        for (Object[] each : told) {
            hold(0, 'a', sumOf((String) each[0]), 0, (String) each[0]);
            due("crank of " + each[0], x.crank(0), each[1]);
        }
        x.make(0, 'a', 0, 0);
        due("crank without parts", x.crank(0), 0);
        refusesSlots("crank", slot -> x.crank(slot));
        refusesOthers("crank", "algdo", slot -> x.crank(slot));
    }

    private static void match() {
        begin(25);
        hold(0, 'd', 13, 4, "6,4,2,1");
        due("match from unlike to odd", x.match(0), 9);
        due("the row", row(0), "3,3,1,1,1,1,1,1,1");
        due("the letter", x.family(0), 'o');
        x.make(1, 'o', 13, 4);
        due("with the same n and k", x.compare(1, 0), -1);
        due("match back", x.match(0), 4);
        due("the row", row(0), "6,4,2,1");
        due("the letter", x.family(0), 'd');
        x.make(0, 'o', 60, 0);
        due("match 60 ones", x.match(0), 4);
        due("the row", row(0), "32,16,8,4");
        hold(0, 'o', 60, 0, "5,5,5,5,5,5,5,5,5,5,5,5");
        due("match twelve 5", x.match(0), 2);
        due("the row", row(0), "40,20");
        x.make(0, 'd', 0, 0);
        due("match without parts", x.match(0), 0);
        due("the letter", x.family(0), 'o');
        due("undo of match", x.undo(), 0);
        due("the letter", x.family(0), 'd');
        refusesSlots("match", slot -> x.match(slot));
        refusesOthers("match", "do", slot -> x.match(slot));
    }

    private static void often() {
        begin(26);
        hold(0, 'a', 9, 0, "3,3,1,1,1");
        due("often 3", x.often(0, 3), 2);
        due("often 1", x.often(0, 1), 3);
        due("often 2", x.often(0, 2), 0);
        due("often 0", x.often(0, 0), 0);
        due("often -1", x.often(0, Integer.MIN_VALUE), 0);
        due("often the greatest", x.often(0, Integer.MAX_VALUE), 0);
        x.make(0, 's', 5, 0);
        due("often 0 of a split", x.often(0, 0), 5);
        x.make(0, 'a', 0, 0);
        due("often 0 of the empty row", x.often(0, 0), 0);
        refusesSlots("often", slot -> x.often(slot, 1));
    }

    private static void hook() {
        begin(27);
        hold(0, 'a', 8, 0, "4,3,1");
        int[][] hooks = {{6, 4, 3, 1}, {4, 2, 1}, {1}};
        for (int i = 0; i < hooks.length; i++) {
            for (int j = 0; j < hooks[i].length; j++) {
                due("hook " + i + "," + j, x.hook(0, i, j), hooks[i][j]);
            }
            int row = i;
            fails("hook behind row " + i, NONE, () -> x.hook(0, row, hooks[row].length));
            fails("hook ahead of row " + i, NONE, () -> x.hook(0, row, -1));
        }
        fails("hook of row -1", NONE, () -> x.hook(0, -1, 0));
        fails("hook of row 3", NONE, () -> x.hook(0, 3, 0));
        fails("hook of the greatest places", NONE, () -> x.hook(0, Integer.MAX_VALUE, Integer.MAX_VALUE));
        fails("hook of the least places", NONE, () -> x.hook(0, Integer.MIN_VALUE, Integer.MIN_VALUE));
        x.make(1, 'a', 0, 0);
        fails("hook without parts", NONE, () -> x.hook(1, 0, 0));
        refusesSlots("hook", slot -> x.hook(slot, 0, 0));
        refusesOthers("hook", "algdo", slot -> x.hook(slot, 0, 0));
        refusesOthers("hook of no place", "algdo", slot -> x.hook(slot, -1, 99));
    }

    private static void fillings() {
        begin(28);
        String[][] told = {{"1", "1"}, {"2,1", "2"}, {"2,2", "2"}, {"3,2", "5"}, {"3,2,1", "16"}, {"4,3,1", "70"},
            {"5,4,3,2,1", "292864"}, {"60", "1"}};
        for (String[] each : told) {
            hold(0, 'a', sumOf(each[0]), 0, each[0]);
            put("was there");
            due("signs of fillings of " + each[0], x.fillings(0), each[1].length());
            due("fillings of " + each[0], text(), each[1]);
        }
        x.make(0, 'a', 0, 0);
        due("fillings without parts", x.fillings(0), 1);
        due("the text", text(), "1");
        hold(0, 'a', 60, 0, "30,30");
        x.fillings(0);
        due("fillings of two rows of 30", text(), "3814986502092304");
        hold(0, 'a', 60, 0, "11,9,8,7,6,5,4,3,3,2,1,1");
        due("signs of fillings of a broad one", x.fillings(0), text().length());
        x.make(0, 'a', 60, 0);
        x.fillings(0);
        due("fillings of one column", text(), "1");
        refusesSlots("fillings", slot -> x.fillings(slot));
        refusesOthers("fillings", "algdo", slot -> x.fillings(slot));
    }

    private static void isOver() {
        begin(29);
        hold(0, 'a', 6, 0, "4,1,1");
        hold(1, 'a', 6, 0, "3,3");
        hold(2, 'd', 6, 5, "5,1");
        hold(3, 'o', 6, 0, "1,1,1,1,1,1");
        due("4,1,1 over 3,3", x.isOver(0, 1), false);
        due("3,3 over 4,1,1", x.isOver(1, 0), false);
        due("5,1 over 3,3", x.isOver(2, 1), true);
        due("3,3 over 5,1", x.isOver(1, 2), false);
        due("over itself", x.isOver(0, 0), true);
        due("all over ones", x.isOver(0, 3), true);
        due("ones over none", x.isOver(3, 0), false);
        x.make(4, 'a', 7, 0);
        fails("unlike n", ARGUMENT, () -> x.isOver(0, 4));
        refusesSlots("isOver", slot -> x.isOver(slot, 0));
        refusesSlots("isOver", slot -> x.isOver(0, slot));
        fails("isOver of none and no slot", INDEX, () -> x.isOver(9, 10));
        refusesOthers("isOver", "algdo", slot -> x.isOver(slot, 0));
        refusesOthers("isOver", "algdo", slot -> x.isOver(0, slot));
        fails("isOver of none and no partition", NONE, () -> x.isOver(8, 9));
    }

    private static void blocks() {
        begin(30);
        hold(0, 's', 6, 0, "0,1,0,2,1,2");
        due("blocks", x.blocks(0), 3);
        x.make(0, 'k', 9, 4);
        due("blocks of k", x.blocks(0), 4);
        x.make(0, 's', 0, 0);
        due("blocks of nothing", x.blocks(0), 0);
        x.make(0, 's', 1, 0);
        due("blocks of one", x.blocks(0), 1);
        refusesSlots("blocks", slot -> x.blocks(slot));
        refusesOthers("blocks", "sk", slot -> x.blocks(slot));
    }

    private static void join() {
        begin(31);
        hold(0, 's', 6, 7, "0,0,1,2,3,3");
        hold(1, 'k', 6, 4, "0,1,1,2,3,0");
        due("join", x.join(2, 0, 1), 2);
        due("the row", row(2), "0,0,0,1,0,0");
        due("the letter", x.family(2), 's');
        due("with the k of the first", x.compare(2, 0), -1);
        due("join to one of them", x.join(1, 1, 0), 2);
        due("the row", row(1), "0,0,0,1,0,0");
        x.make(3, 's', 6, 4);
        due("with the k of the first", x.compare(3, 1), -1);
        due("undo of join", x.undo(), 3);
        due("undo of join", x.undo(), 1);
        due("the letter", x.family(1), 'k');
        hold(4, 's', 5, 0, "0,1,2,3,0");
        hold(5, 's', 5, 0, "0,0,1,1,2");
        due("join", x.join(6, 4, 5), 2);
        due("the row", row(6), "0,0,1,1,0");
        x.make(4, 's', 0, 0);
        due("join of nothing", x.join(5, 4, 4), 0);
        splitPairsRefuse((slot, a, b) -> x.join(slot, a, b));
    }

    private interface Tripled {
        Object answer(int slot, int a, int b);
    }

    private static void splitPairsRefuse(Tripled call) {
        refusesSlots("the one split", slot -> call.answer(0, slot, 0));
        refusesSlots("the other split", slot -> call.answer(0, 0, slot));
        for (int slot : NO_SLOTS) {
            fails("into slot " + slot, INDEX, () -> call.answer(slot, 9, 9));
        }
        refusesOthers("the one", "sk", slot -> call.answer(0, slot, 0));
        refusesOthers("the other", "sk", slot -> call.answer(0, 0, slot));
        fails("one none, one no split", NONE, () -> call.answer(0, 8, 9));
        x.make(7, 's', 9, 0);
        fails("unlike n", ARGUMENT, () -> call.answer(0, 0, 7));
    }

    private static void meet() {
        begin(32);
        hold(0, 's', 6, 7, "0,0,0,1,1,1");
        hold(1, 'k', 6, 2, "0,1,0,1,0,1");
        due("meet", x.meet(2, 0, 1), 4);
        due("the row", row(2), "0,1,0,2,3,2");
        due("the letter", x.family(2), 's');
        due("with the k of the first", x.compare(2, 0), 1);
        due("meet to one of them", x.meet(0, 0, 1), 4);
        due("the row", row(0), "0,1,0,2,3,2");
        due("undo of meet", x.undo(), 0);
        due("the row", row(0), "0,0,0,1,1,1");
        x.make(4, 's', 0, 0);
        due("meet of nothing", x.meet(5, 4, 4), 0);
        splitPairsRefuse((slot, a, b) -> x.meet(slot, a, b));
    }

    private static void isFiner() {
        begin(33);
        hold(0, 's', 5, 0, "0,1,0,2,1");
        hold(1, 's', 5, 3, "0,1,0,1,1");
        hold(2, 'k', 5, 2, "0,1,1,1,1");
        due("finer", x.isFiner(0, 1), true);
        due("not finer", x.isFiner(1, 0), false);
        due("neither", x.isFiner(0, 2), false);
        due("neither", x.isFiner(2, 0), false);
        due("the same", x.isFiner(2, 2), true);
        x.make(3, 's', 0, 0);
        due("nothing", x.isFiner(3, 3), true);
        splitPairsRefuse((slot, a, b) -> slot < 0 || slot > 9 ? x.isFiner(slot, a) : x.isFiner(a, b));
    }

    private static void door() {
        begin(34);
        x.make(0, 'u', 5, 2);
        String[] way = {"1,2", "0,2", "2,3", "1,3", "0,3", "3,4", "2,4", "1,4", "0,4", "0,1"};
        int[] answers = {200, 1, 300, 102, 1, 400, 203, 102, 1, 104};
        for (int i = 0; i < way.length; i++) {
            due("door to " + way[i], x.door(0), answers[i]);
            due("the row", row(0), way[i]);
        }
        due("undo of door", x.undo(), 0);
        due("the row", row(0), "0,4");
        int[][] alone = {{5, 5}, {5, 0}, {0, 0}, {40, 40}};
        for (int[] each : alone) {
            int length = x.make(1, 'u', each[0], each[1]);
            due("door of one alone", x.door(1), -1);
            due("the length", x.length(1), length);
            due("undo of a door without a change", x.undo(), 1);
        }
        x.make(1, 'u', 2, 1);
        due("door of 0 of 2", x.door(1), 100);
        due("door of 1 of 2", x.door(1), 1);
        refusesSlots("door", slot -> x.door(slot));
        refusesOthers("door", "u", slot -> x.door(slot));
    }

    private static void doorRank() {
        begin(35);
        x.make(0, 'u', 6, 3);
        due("doorRank of the first", x.doorRank(0), 1);
        due("the text", text(), "0");
        for (int i = 1; i <= 19; i++) {
            x.door(0);
            put("was there");
            due("signs of doorRank", x.doorRank(0), i < 10 ? 1 : 2);
            due("doorRank", text(), Integer.toString(i));
        }
        x.door(0);
        x.doorRank(0);
        due("doorRank behind the last", text(), "0");
        x.make(1, 'u', 40, 20);
        x.previous(1);
        due("signs of doorRank", x.doorRank(1), 11);
        due("doorRank of the last twenty", text(), "91638191235");
        x.make(1, 'u', 7, 0);
        x.doorRank(1);
        due("doorRank of the empty one", text(), "0");
        refusesSlots("doorRank", slot -> x.doorRank(slot));
        refusesOthers("doorRank", "u", slot -> x.doorRank(slot));
    }

    private static void branch() {
        begin(36);
        hold(0, 'b', 3, 4, "0,0,1,1,0,1");
        due("branch", x.branch(0), 7);
        due("the row", row(0), "1,1,0,0,1,0,0");
        due("the letter", x.family(0), 'v');
        x.make(1, 'v', 3, 4);
        due("with the same n and k", x.compare(1, 0), -1);
        due("branch back", x.branch(0), 6);
        due("the row", row(0), "0,0,1,1,0,1");
        due("the letter", x.family(0), 'b');
        x.make(0, 'b', 0, 0);
        due("branch of nothing", x.branch(0), 1);
        due("the row", row(0), "0");
        due("branch back", x.branch(0), 0);
        due("undo of branch", x.undo(), 0);
        due("the letter", x.family(0), 'v');
        x.make(0, 'b', 20, 0);
        due("branch of twenty", x.branch(0), 41);
        refusesSlots("branch", slot -> x.branch(slot));
        refusesOthers("branch", "bv", slot -> x.branch(slot));
    }

    private static void deepest() {
        begin(37);
        Object[][] told = {{"0,1,0,1,0,1", 1, 3}, {"0,0,0,1,1,1", 3, 3}, {"0,0,1,1,0,1", 2, 2}, {"0,1,0,0,1,1", 2, 3}, {"0,0,1,0,1,1", 2, 3}};
        for (Object[] each : told) {
            hold(0, 'b', 3, 0, (String) each[0]);
            due("open at once in " + each[0], x.deepest(0), each[1]);
            x.branch(0);
            due("knots in a row from the top in it", x.deepest(0), each[2]);
        }
        x.make(0, 'b', 0, 0);
        due("deepest of none", x.deepest(0), 0);
        x.branch(0);
        due("deepest of none", x.deepest(0), 0);
        x.make(0, 'b', 20, 0);
        due("deepest of twenty", x.deepest(0), 20);
        x.make(0, 'v', 20, 0);
        due("deepest of twenty to the right", x.deepest(0), 20);
        x.previous(0);
        due("deepest of twenty to the left", x.deepest(0), 20);
        refusesSlots("deepest", slot -> x.deepest(slot));
        refusesOthers("deepest", "bv", slot -> x.deepest(slot));
    }

    private static void triangles() {
        begin(38);
        hold(0, 'b', 3, 0, "0,1,0,1,0,1");
        due("all to the right", corners(0, 3), "12213");
        hold(0, 'b', 3, 0, "0,0,0,1,1,1");
        due("all to the left", corners(0, 3), "31221");
        hold(0, 'b', 3, 0, "0,0,1,1,0,1");
        due("both sides", corners(0, 3), "21312");
        x.branch(0);
        due("both sides, as branches", corners(0, 3), "21312");
        x.make(0, 'b', 0, 0);
        due("no knot", corners(0, 0), "00");
        x.make(0, 'v', 0, 0);
        due("no knot", corners(0, 0), "00");
        x.make(0, 'v', 1, 0);
        due("one knot", corners(0, 1), "111");
        fails("corner -1", ARGUMENT, () -> x.triangles(0, -1));
        fails("corner 3 of one knot", ARGUMENT, () -> x.triangles(0, 3));
        fails("the greatest corner", ARGUMENT, () -> x.triangles(0, Integer.MAX_VALUE));
        fails("the least corner", ARGUMENT, () -> x.triangles(0, Integer.MIN_VALUE));
        refusesSlots("triangles", slot -> x.triangles(slot, 0));
        refusesOthers("triangles", "bv", slot -> x.triangles(slot, -1));
    }

    private static String corners(int slot, int n) {
        StringBuilder told = new StringBuilder();
        for (int corner = 0; corner <= n + 1; corner++) {
            told.append(x.triangles(slot, corner));
        }
        return told.toString();
    }

    private static void degree() {
        begin(39);
        hold(0, 't', 6, 0, "3,3,3,4");
        int[] degrees = {1, 1, 1, 4, 2, 1};
        for (int node = 0; node < 6; node++) {
            due("degree of " + node, x.degree(0, node), degrees[node]);
        }
        fails("degree of -1", ARGUMENT, () -> x.degree(0, -1));
        fails("degree of 6", ARGUMENT, () -> x.degree(0, 6));
        fails("degree of the greatest", ARGUMENT, () -> x.degree(0, Integer.MAX_VALUE));
        x.make(1, 't', 1, 0);
        due("degree of one alone", x.degree(1, 0), 0);
        x.make(1, 't', 2, 0);
        due("degree of one of two", x.degree(1, 1), 1);
        refusesSlots("degree", slot -> x.degree(slot, 0));
        refusesOthers("degree", "t", slot -> x.degree(slot, -1));
    }

    private static void far() {
        begin(40);
        hold(0, 't', 6, 0, "3,3,3,4");
        int[][] ways = {{0, 2, 2, 1, 2, 3}, {2, 0, 2, 1, 2, 3}, {2, 2, 0, 1, 2, 3}, {1, 1, 1, 0, 1, 2}, {2, 2, 2, 1, 0, 1}, {3, 3, 3, 2, 1, 0}};
        for (int i = 0; i < 6; i++) {
            for (int j = 0; j < 6; j++) {
                due("far " + i + "," + j, x.far(0, i, j), ways[i][j]);
            }
        }
        hold(1, 't', 6, 0, "1,2,3,4");
        due("far along a path", x.far(1, 0, 5), 5);
        fails("far from -1", ARGUMENT, () -> x.far(0, -1, 0));
        fails("far to 6", ARGUMENT, () -> x.far(0, 0, 6));
        fails("far to the least", ARGUMENT, () -> x.far(0, 0, Integer.MIN_VALUE));
        fails("far from the greatest", ARGUMENT, () -> x.far(0, Integer.MAX_VALUE, 0));
        x.make(1, 't', 1, 0);
        due("far in one alone", x.far(1, 0, 0), 0);
        x.make(1, 't', 2, 0);
        due("far in two", x.far(1, 0, 1), 1);
        refusesSlots("far", slot -> x.far(slot, 0, 0));
        refusesOthers("far", "t", slot -> x.far(slot, -1, 99));
    }

    private static void tables() {
        begin(41);
        hold(0, 'c', 4, 2, "2,2");
        hold(1, 'a', 4, 0, "2,1,1");
        put("was there");
        due("signs of tables", x.tables(0, 1), 1);
        due("tables", text(), "4");
        x.tables(1, 0);
        due("tables, turned", text(), "4");
        hold(2, 'c', 12, 4, "3,3,3,3");
        due("signs of tables of four threes", x.tables(2, 2), 4);
        due("tables of four threes", text(), "2008");
        hold(3, 's', 4, 0, "0,1,1,2");
        x.tables(0, 3);
        due("tables with a sum 0", text(), "4");
        x.make(3, 'a', 0, 0);
        x.tables(3, 3);
        due("tables without sums", text(), "1");
        x.make(4, 's', 3, 0);
        x.tables(3, 4);
        due("tables without rows, with columns of 0", text(), "1");
        hold(5, 'a', 12, 0, "12");
        x.tables(5, 2);
        due("tables of one row", text(), "1");
        hold(5, 'a', 13, 0, "13");
        fails("sums above 12", ARGUMENT, () -> x.tables(5, 5));
        fails("unlike sums", ARGUMENT, () -> x.tables(0, 2));
        x.make(6, 'a', 5, 0);
        fails("five rows", ARGUMENT, () -> x.tables(6, 6));
        hold(5, 'a', 5, 0, "5");
        fails("five columns", ARGUMENT, () -> x.tables(5, 6));
        fails("five rows", ARGUMENT, () -> x.tables(6, 5));
        refusesSlots("tables", slot -> x.tables(slot, 0));
        refusesSlots("tables", slot -> x.tables(0, slot));
        fails("tables of none and no slot", INDEX, () -> x.tables(9, 10));
    }

    private static void corner() {
        begin(42);
        hold(0, 'c', 9, 3, "4,2,3");
        hold(1, 'c', 9, 4, "3,3,1,2");
        int[][] table = {{3, 1, 0, 0}, {0, 2, 0, 0}, {0, 0, 1, 2}};
        for (int i = 0; i < 3; i++) {
            for (int j = 0; j < 4; j++) {
                due("corner " + i + "," + j, x.corner(0, 1, i, j), table[i][j]);
                due("corner, turned", x.corner(1, 0, j, i), table[i][j]);
            }
        }
        int[][] none = {{-1, 0}, {0, -1}, {3, 0}, {0, 4}, {Integer.MAX_VALUE, 0}, {0, Integer.MIN_VALUE}};
        hold(2, 'a', 8, 0, "5,2,1");
        hold(4, 'c', 8, 4, "2,2,2,2");
        for (int[] place : none) {
            fails("corner of no place", NONE, () -> x.corner(0, 1, place[0], place[1]));
            fails("corner of no place, of unlike sums", NONE, () -> x.corner(0, 4, place[0], place[1]));
        }
        fails("corner of unlike sums", ARGUMENT, () -> x.corner(0, 2, 0, 0));
        x.make(3, 's', 5, 0);
        due("corner of sums 0", x.corner(3, 3, 4, 4), 0);
        x.make(3, 'a', 60, 0);
        due("corner of sixty ones", x.corner(3, 3, 59, 59), 1);
        x.make(3, 'a', 0, 0);
        fails("corner of the empty table", NONE, () -> x.corner(3, 3, 0, 0));
        refusesSlots("corner", slot -> x.corner(slot, 0, 0, 0));
        refusesSlots("corner", slot -> x.corner(0, slot, 0, 0));
        fails("corner of none and no slot", INDEX, () -> x.corner(9, 10, -1, -1));
    }

    private static void isBinary() {
        begin(43);
        hold(0, 'a', 6, 0, "3,2,1");
        hold(1, 'a', 6, 9, "2,2,2");
        hold(2, 'd', 6, 0, "4,2");
        hold(3, 'o', 6, 0, "1,1,1,1,1,1");
        due("3,2,1 and 2,2,2", x.isBinary(0, 1), true);
        due("3,2,1 and itself", x.isBinary(0, 0), true);
        due("3,2,1 and 4,2", x.isBinary(0, 2), false);
        due("4,2 and 3,2,1", x.isBinary(2, 0), false);
        due("4,2 and 2,2,2", x.isBinary(2, 1), false);
        due("4,2 and ones", x.isBinary(2, 3), true);
        x.make(4, 'a', 0, 0);
        due("no sums", x.isBinary(4, 4), true);
        fails("unlike n", ARGUMENT, () -> x.isBinary(0, 4));
        refusesSlots("isBinary", slot -> x.isBinary(slot, 0));
        refusesSlots("isBinary", slot -> x.isBinary(0, slot));
        fails("isBinary of none and no slot", INDEX, () -> x.isBinary(9, 10));
        refusesOthers("isBinary", "algdo", slot -> x.isBinary(slot, 0));
        refusesOthers("isBinary", "algdo", slot -> x.isBinary(0, slot));
    }

    private static void held() {
        begin(44);
        due("held at first", x.held(), 0);
        for (int slot = 0; slot < 10; slot++) {
            x.make(slot, 'a', 0, 0);
            due("held", x.held(), slot + 1);
        }
        x.make(0, 'b', 2, 0);
        due("held, one again", x.held(), 10);
        x.undo();
        x.undo();
        due("held behind undo", x.held(), 9);
    }

    private static void checksum() {
        begin(45);
        long sum = 7;
        for (int slot = 0; slot < 10; slot++) {
            sum = 31 * sum;
        }
        due("checksum at first", x.checksum(), sum);
        x.draw(1, 'u', 9, 2, -1);
        x.make(9, 'a', 0, 8);
        put("7 ");
        long[] told = {0, 'u', 9, 2, 7, 8, 0, 0, 0, 0, 0, 0, 0, 'a', 0, 8, '7', ' '};
        sum = 7;
        for (long each : told) {
            sum = 31 * sum + each;
        }
        due("checksum", x.checksum(), sum);
        due("checksum again", x.checksum(), sum);
    }

    private static void isSound() {
        begin(46);
        due("isSound at first", x.isSound(), true);
        long[] draws = {0, -1, 1, Long.MAX_VALUE};
        for (char family : FAMILIES.toCharArray()) {
            for (long number : draws) {
                for (int slot = 0; slot < 10; slot++) {
                    x.draw(slot, family, 1 + slot * (family == 't' || family == 'b' || family == 'v' ? 2 : 1), family == 'c' ? 1 : slot / 2 + 1, number + slot);
                }
                put("left alone");
                long sum = x.checksum();
                due("isSound of " + family, x.isSound(), true);
                due("the checksum behind it", x.checksum(), sum);
                due("isSound is not kept", x.undo(), 9);
            }
        }
    }
}
