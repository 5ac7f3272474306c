import java.util.NoSuchElementException;

public final class Example {

    public static void main(String[] args) {
        PartitionCabinet cabinet = new PartitionCabinet();

        // slot 0 becomes the first partition of 5, then the one behind it
        cabinet.make(0, 'a', 5, 0);
        cabinet.next(0);
        System.out.println("partition: " + text(cabinet, cabinet.tell(0)));
        System.out.println("greatest part when turned: " + cabinet.turn(0));

        // how many there are is told by the text, too
        System.out.println("partitions of 60: " + text(cabinet, cabinet.count('a', 60, 0)));

        // a rank is typed into the text; unrank reads it and takes it away
        cabinet.erase();
        cabinet.type('7');
        int size = cabinet.unrank(1, 'u', 5, 2);
        System.out.println("subset 7: " + size + " things, " + cabinet.at(1, 0) + " and " + cabinet.at(1, 1));

        // a row that is no figure of the family has its fault: -1 less the place of the sign
        type(cabinet, "4,4,1");
        System.out.println("fault at " + (-1 - cabinet.read(2, 'd', 9, 0)));

        // undo takes the latest change of a slot back: slot 1 holds none again
        System.out.println("undone in slot " + cabinet.undo());
        try {
            cabinet.length(1);
        } catch (NoSuchElementException e) {
            System.out.println("slot 1 holds none");
        }
    }

    private static void type(PartitionCabinet cabinet, String signs) {
        for (char sign : signs.toCharArray()) {
            cabinet.type(sign);
        }
    }

    private static String text(PartitionCabinet cabinet, int size) {
        StringBuilder signs = new StringBuilder();
        for (int place = 0; place < size; place++) {
            signs.append(cabinet.signAt(place));
        }
        return signs.toString();
    }
}
