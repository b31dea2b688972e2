/** Promise 17. */
public final class CountTest {
    public static void main(String[] args) {
        Due due = new Due();
        countsFollowTheCalls(due);
        aCutThatPurgesLetsNoPageBePrintedAgain(due);
        wrongInputsAreNone(due);
        due.finish();
    }

    private static void rows(Due due, String when, SpoolRows x, int... want) {
        for (int what = 0; what < want.length; what++) {
            due.is("count(" + what + ") " + when, x.count(what), want[what]);
        }
    }

    private static void countsFollowTheCalls(Due due) {
        SpoolRows x = new SpoolRows(20);
        rows(due, "when it is new", x, 20, 0, 0, 0, 0);
        Due.open(x, 1, 2, 24);
        Due.open(x, 2, 1, 41);
        Due.open(x, 3, 1, 0);
        rows(due, "with three outputs", x, 11, 3, 0, 0, 0);
        x.end(1);
        x.end(2);
        x.end(3);
        rows(due, "when one was purged", x, 11, 2, 0, 0, 0);
        x.writer(8);
        x.writer(8);
        x.next(1);
        x.next(2);
        rows(due, "with two writers", x, 11, 2, 2, 0, 0);
        x.print(1, 3);
        x.print(2, 5);
        rows(due, "with pages of two writers", x, 11, 2, 2, 8, 0);
        x.cut(1);
        x.cut(2);
        rows(due, "after cuts of two writers", x, 11, 2, 2, 8, 4);
        x.print(1, 6);
        rows(due, "when one is printed", x, 14, 1, 2, 14, 4);
        x.print(2, 2);
        rows(due, "when one is printed", x, 20, 0, 2, 16, 4);
    }

    private static void aCutThatPurgesLetsNoPageBePrintedAgain(Due due) {
        SpoolRows x = new SpoolRows(20);
        Due.printing(x, 1, 1, 48);
        Due.printing(x, 2, 1, 48);
        x.print(1, 3);
        x.print(2, 5);
        x.purge(1);
        x.cut(1);
        rows(due, "after a cut that purges", x, 14, 1, 2, 8, 0);
        x.cut(2);
        rows(due, "after a cut of the other", x, 14, 1, 2, 8, 1);
        x.print(2, 2);
        x.purge(2);
        x.cut(2);
        rows(due, "after a cut that purges it, too", x, 20, 0, 2, 10, 1);
    }

    private static void wrongInputsAreNone(Due due) {
        SpoolRows x = new SpoolRows(16);
        int[] whats = {-1, 5, Integer.MIN_VALUE, Integer.MAX_VALUE};
        for (int what : whats) {
            due.is("count(" + what + ")", x.count(what), SpoolRows.NONE);
        }
    }
}
