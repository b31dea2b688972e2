/** Promise 17: count. */
public final class CountTest {
    public static void main(String[] args) {
        Due due = new Due();
        countsFollowTheCalls(due);
        freePagesFromFullToNone(due);
        outputsThatAreNotGone(due);
        writersUpToNine(due);
        pagesPrintedByAll(due);
        pagesThatCutsLetBePrintedAgain(due);
        aCutThatPurgesLetsNoPageBePrintedAgain(due);
        otherWhats(due);
        due.finish();
    }

    private static void rows(Due due, String when, SpoolRows x, int... want) {
        for (int what = 0; what < want.length; what++) {
            due.is("count(" + what + ") " + when, x.count(what), want[what]);
        }
    }

    /** Promise 17: "what = 0 free pages, 1 outputs that are not gone, 2 writers, 3 pages printed by all, 4 pages". */
    private static void countsFollowTheCalls(Due due) {
        SpoolRows x = new SpoolRows(20);
        rows(due, "when it is new", x, 20, 0, 0, 0, 0);
        Due.open(x, 1, 2, 24);
        Due.open(x, 2, 1, 41);
        Due.open(x, 3, 1, 0);
        rows(due, "with three outputs", x, 11, 3, 0, 0, 0);
        x.end(1);
        x.end(2);
        x.end(3);
        rows(due, "when one was purged", x, 11, 2, 0, 0, 0);
        x.writer(8);
        x.writer(8);
        x.next(1);
        x.next(2);
        rows(due, "with two writers", x, 11, 2, 2, 0, 0);
        x.print(1, 3);
        x.print(2, 5);
        rows(due, "with pages of two writers", x, 11, 2, 2, 8, 0);
        x.cut(1);
        x.cut(2);
        rows(due, "after cuts of two writers", x, 11, 2, 2, 8, 4);
        x.print(1, 6);
        rows(due, "when one is printed", x, 14, 1, 2, 14, 4);
        x.print(2, 2);
        rows(due, "when both are printed", x, 20, 0, 2, 16, 4);
    }

    /** Promise 17: "0 free pages", from all to none and back; Terms: "free again when the output is gone". */
    private static void freePagesFromFullToNone(Due due) {
        SpoolRows x = new SpoolRows(3);
        Due.open(x, 1, 9, 8);
        due.is("with one page", x.count(0), 2);
        Due.open(x, 1, 9, 9);
        due.is("with three pages", x.count(0), 0);
        x.line(1, Due.A_LINE);
        due.is("after a line that is refused", x.count(0), 0);
        x.end(1);
        due.is("released ones keep their pages", x.count(0), 0);
        x.next(x.writer(8));
        x.print(1, 8);
        due.is("a printing one keeps its pages", x.count(0), 0);
        x.print(1, 1);
        due.is("a printed one's page is free again, once for all copies", x.count(0), 1);
        x.next(1);
        x.purge(2);
        due.is("one that waits to be purged keeps its pages", x.count(0), 1);
        x.cut(1);
        due.is("a purged one's pages are free again", x.count(0), 3);
    }

    /** Promise 17: "1 outputs that are not gone": open, released, held and printing ones. */
    private static void outputsThatAreNotGone(Due due) {
        SpoolRows x = Due.oneOfEachState();
        due.is("of one of each state", x.count(1), 3);
        x.hold(1, true);
        x.hold(2, true);
        due.is("held ones are not gone", x.count(1), 3);
        x.output(1, 0, 1);
        due.is("one without lines is not gone", x.count(1), 4);
        x.segment(1);
        due.is("a segment makes one more", x.count(1), 5);
        x.purge(6);
        due.is("a purged one is gone", x.count(1), 4);
        x.print(1, 9);
        due.is("a printed one is gone", x.count(1), 3);
        x.end(1);
        due.is("one that ended without lines is gone", x.count(1), 2);
    }

    /** Promise 17: "2 writers"; Terms: "at most 9". */
    private static void writersUpToNine(Due due) {
        SpoolRows x = new SpoolRows(16);
        for (int i = 1; i <= 12; i++) {
            x.writer(8);
            due.is("after writer " + i, x.count(2), Math.min(i, 9));
            x.writer(9);
            due.is("after a writer that is refused", x.count(2), Math.min(i, 9));
        }
    }

    /** Promise 17: "3 pages printed by all": each time that one is printed, of gone outputs, too. */
    private static void pagesPrintedByAll(Due due) {
        SpoolRows x = new SpoolRows(16);
        Due.printing(x, 1, 9, 1);
        x.print(1, 0);
        due.is("after no page", x.count(3), 0);
        x.print(1, 3);
        x.cut(1);
        due.is("a cut takes none back", x.count(3), 3);
        x.print(1, Integer.MAX_VALUE);
        due.is("pages that were printed again count again", x.count(3), 12);
        x.print(1, 1);
        due.is("an idle one prints none", x.count(3), 12);
        Due.printing(x, 2, 1, 9);
        x.print(2, 1);
        x.purge(2);
        x.cut(2);
        due.is("those of a purged one stay", x.count(3), 13);
    }

    /** Promise 17: "4 pages that cuts let be printed again": 0 to 3 for each cut. */
    private static void pagesThatCutsLetBePrintedAgain(Due due) {
        SpoolRows x = new SpoolRows(16);
        Due.printing(x, 1, 9, 24);
        int again = 0;
        for (int pages = 0; pages <= 6; pages++) {
            int before = x.state(1, 3);
            x.print(1, pages);
            again += (before + pages) % 4;
            x.cut(1);
            due.is("after a cut after " + pages + " pages", x.count(4), again);
        }
        x.print(1, Integer.MAX_VALUE);
        x.cut(1);
        due.is("a cut of an idle one", x.count(4), again);
    }

    /** Promise 17: "4 pages that cuts let be printed again": a cut that purges lets none. */
    private static void aCutThatPurgesLetsNoPageBePrintedAgain(Due due) {
        SpoolRows x = new SpoolRows(20);
        Due.printing(x, 1, 1, 48);
        Due.printing(x, 2, 1, 48);
        x.print(1, 3);
        x.print(2, 5);
        x.purge(1);
        x.cut(1);
        rows(due, "after a cut that purges", x, 14, 1, 2, 8, 0);
        x.cut(2);
        rows(due, "after a cut of the other", x, 14, 1, 2, 8, 1);
        x.print(2, 2);
        x.purge(2);
        x.cut(2);
        rows(due, "after a cut that purges it, too", x, 20, 0, 2, 10, 1);
    }

    /** Promise 17: "NONE for others": below 0, 5, far beyond, and what would wrap round to 0 .. 4. */
    private static void otherWhats(Due due) {
        SpoolRows x = Due.oneOfEachState();
        int[] whats = {-1, -5, 5, 6, 256, 257, 65536, Integer.MIN_VALUE, Integer.MIN_VALUE + 1, Integer.MAX_VALUE};
        for (int what : whats) {
            due.is("count(" + what + ")", x.count(what), SpoolRows.NONE);
        }
    }
}
