/** Promise 15: order. */
public final class OrderTest {
    public static void main(String[] args) {
        Due due = new Due();
        noneIsPrinted(due);
        asTheyWereEnded(due);
        fromZeroOn(due);
        onesBelowZeroAndBeyond(due);
        purgedOnesAreNotInIt(due);
        cutsDoNotChangeIt(due);
        due.finish();
    }

    /** Promise 15: "0 when there is none": none is printed yet. */
    private static void noneIsPrinted(Due due) {
        SpoolRows x = new SpoolRows(16);
        due.is("order(0) of a new spool", x.order(0), 0);
        Due.printing(x, 1, 1, 9);
        due.is("order(0) while one prints", x.order(0), 0);
        x.print(1, 1);
        due.is("order(0) before its last page", x.order(0), 0);
        x.print(1, 1);
        due.is("order(0) after its last page", x.order(0), 1);
    }

    /** Promise 15: "The i-th output that was printed": as they ended, not as they began. */
    private static void asTheyWereEnded(Due due) {
        SpoolRows x = new SpoolRows(16);
        Due.printing(x, 1, 1, 17);
        Due.printing(x, 2, 1, 1);
        Due.printing(x, 3, 1, 9);
        x.print(3, 2);
        x.print(1, 2);
        x.print(2, 1);
        due.is("order(2) before the third is printed", x.order(2), 0);
        x.print(1, 1);
        due.is("order(0)", x.order(0), 3);
        due.is("order(1)", x.order(1), 2);
        due.is("order(2)", x.order(2), 1);
    }

    /** Promise 15: "The i-th .. from 0 on; 0 when there is none": the last and the one after it. */
    private static void fromZeroOn(Due due) {
        SpoolRows x = new SpoolRows(16);
        x.writer(8);
        for (int i = 0; i < 20; i++) {
            due.is("order(" + i + ") before", x.order(i), 0);
            Due.released(x, 1, 1, 1);
            x.next(1);
            x.print(1, 1);
            due.is("order(" + i + ")", x.order(i), i + 1);
            due.is("order(" + (i + 1) + ")", x.order(i + 1), 0);
            due.is("order(0)", x.order(0), 1);
        }
    }

    /** Promise 15: "0 when there is none": below 0, far beyond, and what would wrap round to one that is there. */
    private static void onesBelowZeroAndBeyond(Due due) {
        SpoolRows x = new SpoolRows(16);
        Due.printing(x, 1, 1, 1);
        x.print(1, 1);
        int[] none = {-1, -2, 1, 256, 511, 512, 999, 1000, 1001, 65536, Integer.MIN_VALUE, Integer.MAX_VALUE};
        for (int i : none) {
            due.is("order(" + i + ")", x.order(i), 0);
        }
    }

    /** Promise 15: "that was printed": purged ones were not, but one whose purging waited to its end was. */
    private static void purgedOnesAreNotInIt(Due due) {
        SpoolRows x = new SpoolRows(16);
        x.purge(Due.released(x, 1, 1, 1));
        Due.released(x, 1, 1, 0);
        due.is("order(0) after purges", x.order(0), 0);
        Due.printing(x, 1, 1, 9);
        x.print(1, 1);
        x.purge(3);
        x.cut(1);
        due.is("order(0) after a purge by a cut", x.order(0), 0);
        Due.released(x, 1, 1, 1);
        x.next(1);
        x.purge(4);
        x.print(1, 1);
        due.is("order(0) after one that waited was printed", x.order(0), 4);
        due.is("order(1)", x.order(1), 0);
    }

    /** Promise 15: "that was printed": once, however often it was cut. */
    private static void cutsDoNotChangeIt(Due due) {
        SpoolRows x = new SpoolRows(16);
        Due.printing(x, 1, 2, 9);
        x.print(1, 3);
        x.cut(1);
        due.is("order(0) after a cut", x.order(0), 0);
        x.print(1, 4);
        due.is("order(0)", x.order(0), 1);
        due.is("order(1)", x.order(1), 0);
    }
}
