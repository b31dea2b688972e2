/** Promise 3: line. */
public final class LineTest {
    private static final int GREATEST = 132 * 256 + 255;

    public static void main(String[] args) {
        Due due = new Due();
        signsAndLengthsWithinTheBounds(due);
        linesOutsideTheBounds(due);
        eightOnAPage(due);
        beyondALimitThatWarns(due);
        beyondALimitThatEnds(due);
        noPageIsFree(due);
        noPageIsFreeForTheFirstLine(due);
        aRefusedLineLeavesNothing(due);
        itIsNotOpen(due);
        aHeldOneIsOpen(due);
        thereIsNoneSuch(due);
        moreThanOneReasonToRefuse(due);
        due.finish();
    }

    /**
     * Promise 3: "a sign (n modulo 256) and a length (n / 256)", "n is not 0 .. 132 * 256 + 255": its bounds; Terms:
     * "each of a sign 0 .. 255 and so many (its length, 0 .. 132)".
     */
    private static void signsAndLengthsWithinTheBounds(Due due) {
        int[] lines = {0, 1, 255, 256, 257, 511, 512, 132 * 256 - 1, 132 * 256, GREATEST - 1, GREATEST};
        for (int n : lines) {
            SpoolRows x = new SpoolRows(16);
            x.output(1, 0, 1);
            due.is("line(1, " + n + ")", x.line(1, n), 1);
            due.is("lines after it", x.state(1, 1), 1);
            due.is("lines of its sign and a length above 0", x.search(n % 256), n >= 256 ? 1 : 0);
            due.is("lines of another sign", x.search((n + 1) % 256), 0);
        }
    }

    /** Promise 3: "NONE when .. n is not 0 .. 132 * 256 + 255". */
    private static void linesOutsideTheBounds(Due due) {
        SpoolRows x = new SpoolRows(16);
        Due.open(x, 1, 1, 1);
        String before = Due.picture(x);
        int[] lines = {-1, -256, -Due.A_LINE, GREATEST + 1, 133 * 256 + 255, 65536, 65536 + Due.A_LINE,
            Integer.MIN_VALUE, Integer.MIN_VALUE + Due.A_LINE, Integer.MAX_VALUE};
        for (int n : lines) {
            due.is("line(1, " + n + ")", x.line(1, n), SpoolRows.NONE);
        }
        due.isStill("after lines that are not so", x, before);
    }

    /** Promise 3: "comes to an open output: 1"; Terms: "8 on a page", "A page is taken when its first line comes". */
    private static void eightOnAPage(Due due) {
        SpoolRows x = new SpoolRows(16);
        x.output(1, 0, 1);
        due.is("free pages before the first line", x.count(0), 16);
        for (int i = 1; i <= 25; i++) {
            due.is("line " + i, x.line(1, i % 2 == 0 ? 0 : GREATEST), 1);
            due.is("lines after line " + i, x.state(1, 1), i);
            due.is("pages after line " + i, x.state(1, 2), (i + 7) / 8);
            due.is("free pages after line " + i, x.count(0), 16 - (i + 7) / 8);
        }
    }

    /**
     * Promise 3: "2 it is taken, but beyond a limit that warns": the line that reaches the limit is not beyond it;
     * Terms: "or WARN (it is taken)".
     */
    private static void beyondALimitThatWarns(Due due) {
        for (int limit = 1; limit <= 17; limit++) {
            SpoolRows x = new SpoolRows(16);
            x.output(1, 0, 1);
            x.limit(1, limit, false);
            for (int i = 1; i <= limit + 2; i++) {
                due.is("line " + i + " of a limit of " + limit, x.line(1, Due.A_LINE), i > limit ? 2 : 1);
                due.is("it is taken", x.state(1, 1), i);
                due.is("it is found", x.search(65), i);
            }
        }
    }

    /**
     * Promise 3: "0 it is not taken: beyond one that ends": the line that reaches the limit is not beyond it; Terms:
     * "LIMITS of an output: so many lines, which END it (a line beyond is not taken)".
     */
    private static void beyondALimitThatEnds(Due due) {
        for (int limit = 1; limit <= 17; limit++) {
            SpoolRows x = new SpoolRows(16);
            x.output(1, 0, 1);
            x.limit(1, limit, true);
            for (int i = 1; i <= limit + 2; i++) {
                due.is("line " + i + " of a limit of " + limit, x.line(1, Due.A_LINE), i > limit ? 0 : 1);
                due.is("lines", x.state(1, 1), Math.min(i, limit));
                due.is("lines that are found", x.search(65), Math.min(i, limit));
            }
            due.is("no page is taken by it", x.count(0), 16 - (limit + 7) / 8);
            due.is("the output stays open", x.state(1, 0), 1);
        }
    }

    /** Promise 3: "-3 no page is free": only a line that needs a page is refused. */
    private static void noPageIsFree(Due due) {
        SpoolRows x = new SpoolRows(2);
        Due.open(x, 1, 1, 8);
        Due.open(x, 1, 1, 7);
        due.is("free pages", x.count(0), 0);
        due.is("the first line of a page", x.line(1, Due.A_LINE), -3);
        due.is("a line of length 0", x.line(1, 0), -3);
        due.is("the last line of a page that is taken", x.line(2, Due.A_LINE), 1);
        due.is("and the line after it", x.line(2, Due.A_LINE), -3);
        x.purge(2);
        due.is("when a page is free again", x.line(1, Due.A_LINE), 1);
        due.is("free pages", x.count(0), 0);
    }

    /** Promise 3: "-3 no page is free", of an output without lines. */
    private static void noPageIsFreeForTheFirstLine(Due due) {
        SpoolRows x = new SpoolRows(1);
        x.output(1, 0, 1);
        x.output(2, 0, 1);
        due.is("the line that takes the last page", x.line(1, Due.A_LINE), 1);
        due.is("the first line of another", x.line(2, Due.A_LINE), -3);
        due.is("its state", x.state(2, 0), 1);
        due.is("its lines", x.state(2, 1), 0);
    }

    /** Promise 3: "0 it is not taken" and "-3 no page is free": a refused line changes nothing. */
    private static void aRefusedLineLeavesNothing(Due due) {
        SpoolRows x = new SpoolRows(2);
        Due.open(x, 1, 1, 8);
        Due.open(x, 1, 1, 3);
        x.limit(2, 3, true);
        String before = Due.picture(x);
        due.is("no page is free", x.line(1, Due.A_LINE), -3);
        due.is("beyond a limit that ends", x.line(2, Due.A_LINE), 0);
        due.isStill("after refused lines", x, before);
    }

    /** Promise 3: "-2 it is not open". */
    private static void itIsNotOpen(Due due) {
        SpoolRows x = Due.oneOfEachState();
        Due.open(x, 6, 1, 1);
        x.segment(6);
        String before = Due.picture(x);
        due.is("a released one", x.line(2, Due.A_LINE), -2);
        due.is("a printing one", x.line(3, Due.A_LINE), -2);
        due.is("a printed one", x.line(4, Due.A_LINE), -2);
        due.is("a purged one", x.line(5, Due.A_LINE), -2);
        due.is("one whose segment is released", x.line(6, Due.A_LINE), -2);
        due.isStill("after lines to such", x, before);
        x.hold(2, true);
        due.is("a released and held one", x.line(2, Due.A_LINE), -2);
    }

    /** Promise 3: "comes to an open output: 1"; Terms: "An open or released one may be HELD". */
    private static void aHeldOneIsOpen(Due due) {
        SpoolRows x = new SpoolRows(16);
        x.output(1, 0, 1);
        x.hold(1, true);
        due.is("a line to a held one that is open", x.line(1, Due.A_LINE), 1);
        due.is("it stays held and open", x.state(1, 0), 7);
    }

    /** Promise 3: "NONE when there is none such". */
    private static void thereIsNoneSuch(Due due) {
        due.is("line(1, 0) where there is none at all", new SpoolRows(16).line(1, 0), SpoolRows.NONE);
        SpoolRows x = new SpoolRows(16);
        Due.open(x, 1, 1, 1);
        String before = Due.picture(x);
        for (int output : Due.numbersOfNone(1)) {
            due.is("line(" + output + ", 1)", x.line(output, 1), SpoolRows.NONE);
        }
        due.isStill("after lines to none", x, before);
    }

    /**
     * Promise 3: the answers' order where two reasons hold is not told: wrong arguments are asked first, then the
     * state, then the limit ("it is not taken" needs no page), then the page.
     */
    private static void moreThanOneReasonToRefuse(Due due) {
        SpoolRows x = new SpoolRows(1);
        Due.open(x, 1, 1, 8);
        x.limit(1, 8, false);
        due.is("no page, beyond a limit that warns", x.line(1, Due.A_LINE), -3);
        x.limit(1, 8, true);
        due.is("no page, beyond a limit that ends", x.line(1, Due.A_LINE), 0);
        due.is("a wrong line, beyond a limit that ends", x.line(1, -1), SpoolRows.NONE);
        x.end(1);
        due.is("not open, no page, beyond a limit", x.line(1, Due.A_LINE), -2);
        due.is("a wrong line, not open", x.line(1, GREATEST + 1), SpoolRows.NONE);
    }
}
