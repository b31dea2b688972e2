/** Promise 14: search. */
public final class SearchTest {
    public static void main(String[] args) {
        Due due = new Due();
        noneIsFound(due);
        lengthsAboveZero(due);
        everySign(due);
        signsOutsideTheBounds(due);
        linesOfAllThatAreThere(due);
        goneOutputsAreNotSearched(due);
        linesThatWereNotTaken(due);
        due.finish();
    }

    /** Promise 14: "How many lines": 0 where there are no lines, and of a sign that none has. */
    private static void noneIsFound(Due due) {
        SpoolRows x = new SpoolRows(16);
        due.is("search(65) without outputs", x.search(65), 0);
        x.output(1, 0, 1);
        due.is("search(65) without lines", x.search(65), 0);
        due.is("search(0) without lines", x.search(0), 0);
        Due.lines(x, 1, 3);
        due.is("search(66)", x.search(66), 0);
        due.is("search(1), a length and no sign", x.search(1), 0);
    }

    /** Promise 14: "have a sign and a length above 0": 1 is above 0; a line counts once, however long. */
    private static void lengthsAboveZero(Due due) {
        SpoolRows x = new SpoolRows(16);
        x.output(1, 0, 1);
        x.line(1, 65);
        due.is("a line of length 0", x.search(65), 0);
        x.line(1, 256 + 65);
        due.is("a line of length 1", x.search(65), 1);
        x.line(1, 132 * 256 + 65);
        due.is("a line of length 132", x.search(65), 2);
        x.line(1, 65);
        due.is("another line of length 0", x.search(65), 2);
    }

    /** Promise 14: "lines .. have a sign", each of 0 .. 255. */
    private static void everySign(Due due) {
        SpoolRows x = new SpoolRows(32);
        x.output(1, 0, 1);
        for (int sign = 0; sign <= 255; sign++) {
            x.line(1, 256 + sign);
        }
        for (int sign = 0; sign <= 254; sign++) {
            due.is("search(" + sign + ")", x.search(sign), 1);
        }
        SpoolRows y = new SpoolRows(32);
        y.output(1, 0, 1);
        y.line(1, 256 + 255);
        y.line(1, 256);
        due.is("search(255)", y.search(255), 1);
        due.is("search(0)", y.search(0), 1);
        due.is("search(254)", y.search(254), 0);
    }

    /** Promise 14: "NONE when c is not 0 .. 255". */
    private static void signsOutsideTheBounds(Due due) {
        SpoolRows x = new SpoolRows(16);
        Due.open(x, 1, 1, 1);
        x.line(1, 256);
        x.line(1, 256 + 255);
        int[] wrong = {-1, -191, -256, 256, 257, 256 + 65, 65536, Integer.MIN_VALUE, Integer.MIN_VALUE + 65,
            Integer.MAX_VALUE};
        for (int c : wrong) {
            due.is("search(" + c + ")", x.search(c), SpoolRows.NONE);
        }
    }

    /** Promise 14: "lines of outputs that are not gone": open, released, held and printing ones. */
    private static void linesOfAllThatAreThere(Due due) {
        SpoolRows x = new SpoolRows(16);
        for (int job = 1; job <= 4; job++) {
            Due.open(x, job, 1, job);
        }
        due.is("four open ones", x.search(65), 10);
        x.end(2);
        x.hold(2, true);
        due.is("one is released and held", x.search(65), 10);
        x.end(3);
        x.next(x.writer(8));
        due.is("one is printing", x.search(65), 10);
        x.purge(3);
        due.is("one waits to be purged", x.search(65), 10);
    }

    /** Promise 14: "lines of outputs that are not gone": printed and purged ones are. */
    private static void goneOutputsAreNotSearched(Due due) {
        SpoolRows x = new SpoolRows(16);
        for (int job = 1; job <= 4; job++) {
            Due.open(x, job, 1, job);
        }
        x.end(3);
        x.next(x.writer(8));
        x.print(1, 1);
        due.is("one is printed", x.search(65), 7);
        x.purge(4);
        due.is("one is purged", x.search(65), 3);
        x.end(2);
        x.next(1);
        x.purge(2);
        x.cut(1);
        due.is("one is purged by a cut", x.search(65), 1);
        x.purge(1);
        due.is("all are gone", x.search(65), 0);
        Due.open(x, 1, 1, 2);
        due.is("a new one", x.search(65), 2);
    }

    /** Promise 14: "How many lines" were taken: refused ones are no lines of it. */
    private static void linesThatWereNotTaken(Due due) {
        SpoolRows x = new SpoolRows(1);
        Due.open(x, 1, 1, 3);
        x.limit(1, 3, true);
        x.line(1, Due.A_LINE);
        due.is("a line beyond a limit that ends", x.search(65), 3);
        x.limit(1, 3, false);
        x.line(1, Due.A_LINE);
        due.is("a line beyond a limit that warns", x.search(65), 4);
        Due.lines(x, 1, 5);
        due.is("a line without a page", x.search(65), 8);
        x.end(1);
        x.line(1, Due.A_LINE);
        due.is("a line to one that is not open", x.search(65), 8);
    }
}
