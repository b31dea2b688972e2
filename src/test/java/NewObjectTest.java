/** Promise 1: A new object. */
public final class NewObjectTest {
    public static void main(String[] args) {
        Due due = new Due();
        roomsWithinTheBounds(due);
        numbersBelowAreHeldToNone(due);
        numbersAboveAreHeldToTheGreatest(due);
        aNewSpoolIsEmpty(due);
        roomIsWhatLinesCanTake(due);
        objectsShareNothing(due);
        due.finish();
    }

    /** Promise 1: "A spool with room for 0 .. 65536 pages". */
    private static void roomsWithinTheBounds(Due due) {
        int[] rooms = {0, 1, 7, 8, 16, 255, 256, 32767, 32768, 65535, 65536};
        for (int room : rooms) {
            due.is("count(0) of new SpoolRows(" + room + ")", new SpoolRows(room).count(0), room);
        }
    }

    /** Promise 1: "(numbers outside are held to these)", too small. */
    private static void numbersBelowAreHeldToNone(Due due) {
        int[] rooms = {-1, -8, -65536, Integer.MIN_VALUE + 1, Integer.MIN_VALUE};
        for (int room : rooms) {
            SpoolRows x = new SpoolRows(room);
            due.is("count(0) of new SpoolRows(" + room + ")", x.count(0), 0);
            due.is("output in it", x.output(1, 0, 1), 0);
        }
    }

    /** Promise 1: "(numbers outside are held to these)", too large: what is reserved is an eighth of the held room. */
    private static void numbersAboveAreHeldToTheGreatest(Due due) {
        int[] rooms = {65537, 65536 * 2, 65536 * 8, 65536 * 9, Integer.MAX_VALUE};
        for (int room : rooms) {
            SpoolRows x = new SpoolRows(room);
            due.is("count(0) of new SpoolRows(" + room + ")", x.count(0), 65536);
            due.is("output in it", x.output(1, 0, 1), 1);
            due.is("a line of it", x.line(1, Due.A_LINE), 1);
            due.is("free pages after it", x.count(0), 65535);
        }
    }

    /** Promise 1: "A spool": nothing is in a new one. */
    private static void aNewSpoolIsEmpty(Due due) {
        SpoolRows x = new SpoolRows(16);
        for (int what = 1; what <= 4; what++) {
            due.is("count(" + what + ") of a new spool", x.count(what), 0);
        }
        due.is("state(1, 0) of a new spool", x.state(1, 0), SpoolRows.NONE);
        due.is("next(1) of a new spool", x.next(1), SpoolRows.NONE);
        due.is("order(0) of a new spool", x.order(0), 0);
        due.is("search(0) of a new spool", x.search(0), 0);
        due.is("search(65) of a new spool", x.search(65), 0);
        due.is("end(1) of a new spool", x.end(1), 0);
    }

    /** Promise 1: "room for" so many pages: the last of them can be taken, and no more. */
    private static void roomIsWhatLinesCanTake(Due due) {
        for (int room = 1; room <= 17; room++) {
            SpoolRows x = new SpoolRows(room);
            x.output(1, 0, 1);
            for (int i = 1; i <= room * 8; i++) {
                due.is("line " + i + " in a room of " + room, x.line(1, Due.A_LINE), 1);
            }
            due.is("a line beyond a room of " + room, x.line(1, Due.A_LINE), -3);
            due.is("free pages of a full room of " + room, x.count(0), 0);
        }
    }

    /** Promise 1: "A new object": what is done to one spool is not seen in another. */
    private static void objectsShareNothing(Due due) {
        SpoolRows one = new SpoolRows(16);
        String empty = Due.picture(one);
        SpoolRows other = new SpoolRows(16);
        Due.printing(other, 1, 1, 9);
        other.print(1, 2);
        Due.open(other, 1, 1, 1);
        due.isStill("beside a used one", one, empty);
        due.isStill("made after a used one", new SpoolRows(16), empty);
    }
}
