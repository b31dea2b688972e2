/** Promise 16: state. */
public final class StateTest {
    public static void main(String[] args) {
        Due due = new Due();
        throughItsLife(due);
        eachState(due);
        sixMoreWhenItIsHeld(due);
        linesAndPages(due);
        pagesPrintedNow(due);
        copiesLeft(due);
        purgedOnes(due);
        onePurgedByACut(due);
        otherWhats(due);
        thereIsNoneSuch(due);
        due.finish();
    }

    private static void rows(Due due, String when, SpoolRows x, int output, int... want) {
        for (int what = 0; what < want.length; what++) {
            due.is("state(" + output + ", " + what + ") " + when, x.state(output, what), want[what]);
        }
    }

    /** Promise 16: "what = 0 its state .., 1 lines, 2 pages, 3 pages printed .., 4 job, 5 copies left". */
    private static void throughItsLife(Due due) {
        SpoolRows x = new SpoolRows(16);
        x.output(77, 0, 2);
        rows(due, "when it is new", x, 1, 1, 0, 0, 0, 77, 2);
        Due.lines(x, 1, 8);
        rows(due, "with 8 lines", x, 1, 1, 8, 1, 0, 77, 2);
        Due.lines(x, 1, 9);
        rows(due, "with 17 lines", x, 1, 1, 17, 3, 0, 77, 2);
        x.hold(1, true);
        rows(due, "when it is held", x, 1, 7, 17, 3, 0, 77, 2);
        x.end(77);
        rows(due, "when it is released and held", x, 1, 8, 17, 3, 0, 77, 2);
        x.hold(1, false);
        rows(due, "when it is released", x, 1, 2, 17, 3, 0, 77, 2);
        x.next(x.writer(8));
        rows(due, "when it is printing", x, 1, 3, 17, 3, 0, 77, 2);
        x.print(1, 2);
        rows(due, "after 2 pages", x, 1, 3, 17, 3, 2, 77, 2);
        x.print(1, 1);
        rows(due, "after 3 pages", x, 1, 3, 17, 3, 3, 77, 1);
        x.cut(1);
        rows(due, "after a cut", x, 1, 3, 17, 3, 0, 77, 2);
        x.print(1, 6);
        rows(due, "when it is printed", x, 1, 4, 17, 3, 6, 77, 0);
    }

    /**
     * Promise 16: "its state"; Terms: "OPEN (1) at first, RELEASED (2) when its job ends or its segment is, PRINTING
     * (3) while a writer has it, then PRINTED (4), or PURGED (5)".
     */
    private static void eachState(Due due) {
        SpoolRows x = Due.oneOfEachState();
        for (int output = 1; output <= 5; output++) {
            due.is("state(" + output + ", 0)", x.state(output, 0), output);
        }
    }

    /** Promise 16: "(6 more when it is held)"; Terms: "An open or released one may be HELD", "(and not held)". */
    private static void sixMoreWhenItIsHeld(Due due) {
        SpoolRows x = Due.oneOfEachState();
        for (int output = 1; output <= 5; output++) {
            x.hold(output, true);
            due.is("state(" + output + ", 0) after hold", x.state(output, 0), output <= 2 ? output + 6 : output);
        }
        x.purge(1);
        x.purge(2);
        due.is("a held one that was open, purged", x.state(1, 0), 5);
        due.is("a held one that was released, purged", x.state(2, 0), 5);
    }

    /** Promise 16: "1 lines, 2 pages"; Terms: "8 on a page". */
    private static void linesAndPages(Due due) {
        SpoolRows x = new SpoolRows(16);
        x.output(1, 0, 9);
        for (int lines = 0; lines <= 33; lines++) {
            due.is("state(1, 1)", x.state(1, 1), lines);
            due.is("state(1, 2) of " + lines + " lines", x.state(1, 2), (lines + 7) / 8);
            x.line(1, 0);
        }
    }

    /** Promise 16: "3 pages printed (now, all copies)": a cut takes back those since the checkpoint. */
    private static void pagesPrintedNow(Due due) {
        SpoolRows x = new SpoolRows(16);
        Due.printing(x, 1, 9, 9);
        x.print(1, 7);
        due.is("after 7 pages", x.state(1, 3), 7);
        x.cut(1);
        due.is("after a cut", x.state(1, 3), 4);
        x.print(1, 13);
        due.is("before the last", x.state(1, 3), 17);
        x.print(1, 1);
        due.is("when all is printed", x.state(1, 3), 18);
    }

    /** Promise 16: "5 copies left that are not wholly printed": one that is begun is left, one that is ended is not. */
    private static void copiesLeft(Due due) {
        for (int copies = 1; copies <= 9; copies++) {
            SpoolRows x = new SpoolRows(16);
            x.output(1, 0, copies);
            due.is("without lines", x.state(1, 5), copies);
            Due.lines(x, 1, 17);
            due.is("with lines", x.state(1, 5), copies);
            x.end(1);
            x.next(x.writer(8));
            for (int page = 1; page <= copies * 3; page++) {
                x.print(1, 1);
                due.is("after page " + page + " of " + copies + " times 3", x.state(1, 5), copies - page / 3);
            }
        }
    }

    /** Promise 16: "Of an output", a purged one, too: it keeps its lines, pages, job and copies. */
    private static void purgedOnes(Due due) {
        SpoolRows x = new SpoolRows(16);
        x.output(5, 0, 9);
        x.purge(1);
        rows(due, "when it is purged without lines", x, 1, 5, 0, 0, 0, 5, 9);
        x.purge(Due.open(x, 5, 9, 9));
        rows(due, "when it is purged with lines", x, 2, 5, 9, 2, 0, 5, 9);
    }

    /** Promise 16: "3 pages printed (now, all copies)", of one that a cut purged: nothing of it is printed again. */
    private static void onePurgedByACut(Due due) {
        SpoolRows x = new SpoolRows(16);
        Due.printing(x, 7, 3, 17);
        x.print(1, 6);
        x.purge(1);
        rows(due, "when its purging waits", x, 1, 3, 17, 3, 6, 7, 1);
        x.cut(1);
        rows(due, "when a cut purged it", x, 1, 5, 17, 3, 6, 7, 1);
    }

    /** Promise 16: "NONE for others": below 0, 6, far beyond, and what would wrap round to 0 .. 5. */
    private static void otherWhats(Due due) {
        SpoolRows x = Due.oneOfEachState();
        int[] whats = {-1, -6, 6, 7, 256, 257, 65536, Integer.MIN_VALUE, Integer.MIN_VALUE + 1, Integer.MAX_VALUE};
        for (int what : whats) {
            for (int output = 1; output <= 5; output++) {
                due.is("state(" + output + ", " + what + ")", x.state(output, what), SpoolRows.NONE);
            }
        }
    }

    /** Promise 16: "NONE .. when there is none such". */
    private static void thereIsNoneSuch(Due due) {
        due.is("state(1, 0) where there is none at all", new SpoolRows(16).state(1, 0), SpoolRows.NONE);
        SpoolRows x = new SpoolRows(16);
        x.output(1, 0, 1);
        for (int output : Due.numbersOfNone(1)) {
            for (int what = -1; what <= 6; what++) {
                due.is("state(" + output + ", " + what + ")", x.state(output, what), SpoolRows.NONE);
            }
        }
    }
}
