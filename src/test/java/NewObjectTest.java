/** Promise 1. */
public final class NewObjectTest {
    public static void main(String[] args) {
        Due due = new Due();
        roomIsHeldToItsBounds(due);
        aNewSpoolIsEmpty(due);
        roomIsWhatLinesCanTake(due);
        due.finish();
    }

    private static void roomIsHeldToItsBounds(Due due) {
        int[] asked = {Integer.MIN_VALUE, -1, 0, 1, 16, 65535, 65536, 65537, Integer.MAX_VALUE};
        int[] want = {0, 0, 0, 1, 16, 65535, 65536, 65536, 65536};
        for (int i = 0; i < asked.length; i++) {
            due.is("count(0) of new SpoolRows(" + asked[i] + ")", new SpoolRows(asked[i]).count(0), want[i]);
        }
    }

    private static void aNewSpoolIsEmpty(Due due) {
        SpoolRows x = new SpoolRows(16);
        for (int what = 1; what <= 4; what++) {
            due.is("count(" + what + ") of a new spool", x.count(what), 0);
        }
        due.is("state(1, 0) of a new spool", x.state(1, 0), SpoolRows.NONE);
        due.is("next(1) of a new spool", x.next(1), SpoolRows.NONE);
        due.is("order(0) of a new spool", x.order(0), 0);
        due.is("search(65) of a new spool", x.search(65), 0);
    }

    private static void roomIsWhatLinesCanTake(Due due) {
        SpoolRows x = new SpoolRows(1);
        due.is("output in a room of 1", x.output(1, 0, 1), 1);
        for (int i = 0; i < 8; i++) {
            due.is("line " + i + " on the one page", x.line(1, Due.A_LINE), 1);
        }
        due.is("line beyond the one page", x.line(1, Due.A_LINE), -3);
    }
}
