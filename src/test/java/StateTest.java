/** Promise 16. */
public final class StateTest {
    public static void main(String[] args) {
        Due due = new Due();
        throughItsLife(due);
        purgedOnes(due);
        onePurgedByACut(due);
        wrongInputsAreNone(due);
        due.finish();
    }

    private static void rows(Due due, String when, SpoolRows x, int output, int... want) {
        for (int what = 0; what < want.length; what++) {
            due.is("state(" + output + ", " + what + ") " + when, x.state(output, what), want[what]);
        }
    }

    private static void throughItsLife(Due due) {
        SpoolRows x = new SpoolRows(16);
        x.output(77, 0, 2);
        rows(due, "when it is new", x, 1, 1, 0, 0, 0, 77, 2);
        Due.lines(x, 1, 8);
        rows(due, "with 8 lines", x, 1, 1, 8, 1, 0, 77, 2);
        Due.lines(x, 1, 9);
        rows(due, "with 17 lines", x, 1, 1, 17, 3, 0, 77, 2);
        x.hold(1, true);
        rows(due, "when it is held", x, 1, 7, 17, 3, 0, 77, 2);
        x.end(77);
        rows(due, "when it is released and held", x, 1, 8, 17, 3, 0, 77, 2);
        x.hold(1, false);
        rows(due, "when it is released", x, 1, 2, 17, 3, 0, 77, 2);
        x.next(x.writer(8));
        rows(due, "when it is printing", x, 1, 3, 17, 3, 0, 77, 2);
        x.print(1, 2);
        rows(due, "after 2 pages", x, 1, 3, 17, 3, 2, 77, 2);
        x.print(1, 1);
        rows(due, "after 3 pages", x, 1, 3, 17, 3, 3, 77, 1);
        x.cut(1);
        rows(due, "after a cut", x, 1, 3, 17, 3, 0, 77, 2);
        x.print(1, 6);
        rows(due, "when it is printed", x, 1, 4, 17, 3, 6, 77, 0);
    }

    private static void purgedOnes(Due due) {
        SpoolRows x = new SpoolRows(16);
        x.output(5, 0, 9);
        x.purge(1);
        rows(due, "when it is purged without lines", x, 1, 5, 0, 0, 0, 5, 9);
        x.purge(Due.open(x, 5, 9, 9));
        rows(due, "when it is purged with lines", x, 2, 5, 9, 2, 0, 5, 9);
    }

    private static void onePurgedByACut(Due due) {
        SpoolRows x = new SpoolRows(16);
        Due.printing(x, 7, 3, 17);
        x.print(1, 6);
        x.purge(1);
        rows(due, "when its purging waits", x, 1, 3, 17, 3, 6, 7, 1);
        x.cut(1);
        rows(due, "when a cut purged it", x, 1, 5, 17, 3, 6, 7, 1);
    }

    private static void wrongInputsAreNone(Due due) {
        SpoolRows x = new SpoolRows(16);
        x.output(1, 0, 1);
        int[] whats = {-1, 6, Integer.MIN_VALUE, Integer.MAX_VALUE};
        for (int what : whats) {
            due.is("state(1, " + what + ")", x.state(1, what), SpoolRows.NONE);
        }
        int[] outputs = {0, -1, 2, Integer.MIN_VALUE, Integer.MAX_VALUE};
        for (int output : outputs) {
            for (int what = 0; what <= 5; what++) {
                due.is("state(" + output + ", " + what + ")", x.state(output, what), SpoolRows.NONE);
            }
        }
    }
}
