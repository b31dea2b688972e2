/** Promise 4: limit. */
public final class LimitTest {
    public static void main(String[] args) {
        Due due = new Due();
        noneIsZero(due);
        theLeastAndTheGreatest(due);
        atBelowAndAboveItsLines(due);
        itEndsOrWarns(due);
        onlyItsOwnOutput(due);
        itIsNotGone(due);
        itIsGone(due);
        thereIsNoneSuch(due);
        linesBelowZero(due);
        due.finish();
    }

    /** Promise 4: "so many lines (0 none)". */
    private static void noneIsZero(Due due) {
        SpoolRows x = new SpoolRows(16);
        Due.open(x, 1, 1, 5);
        x.limit(1, 5, true);
        due.is("a line beyond", x.line(1, Due.A_LINE), 0);
        due.is("limit(1, 0, true)", x.limit(1, 0, true), 1);
        due.is("a line without a limit", x.line(1, Due.A_LINE), 1);
        x.limit(1, 5, false);
        due.is("a line beyond", x.line(1, Due.A_LINE), 2);
        due.is("limit(1, 0, false)", x.limit(1, 0, false), 1);
        due.is("a line without a limit", x.line(1, Due.A_LINE), 1);
        x.output(2, 0, 1);
        x.limit(2, 0, true);
        due.is("the first line without a limit", x.line(2, Due.A_LINE), 1);
    }

    /** Promise 4: "An output's limit is so many lines", of which 1 is the least and no greatest is told. */
    private static void theLeastAndTheGreatest(Due due) {
        SpoolRows x = new SpoolRows(16);
        x.output(1, 0, 1);
        due.is("limit(1, 1, true)", x.limit(1, 1, true), 1);
        due.is("the first line", x.line(1, Due.A_LINE), 1);
        due.is("the second line", x.line(1, Due.A_LINE), 0);
        int[] great = {256, 257, 65536, 65537, Integer.MAX_VALUE - 1, Integer.MAX_VALUE};
        for (int lines : great) {
            due.is("limit(1, " + lines + ", true)", x.limit(1, lines, true), 1);
            due.is("a line within it", x.line(1, Due.A_LINE), 1);
        }
    }

    /** Promise 4: "An output's limit is so many lines", set below, at and above the lines that it has. */
    private static void atBelowAndAboveItsLines(Due due) {
        for (int limit = 1; limit <= 9; limit++) {
            SpoolRows x = new SpoolRows(16);
            Due.open(x, 1, 1, 5);
            due.is("limit(1, " + limit + ", true)", x.limit(1, limit, true), 1);
            due.is("lines that it has stay", x.state(1, 1), 5);
            due.is("a line after 5", x.line(1, Due.A_LINE), limit > 5 ? 1 : 0);
        }
    }

    /** Promise 4: "which ends, or warns", each in the place of the other. */
    private static void itEndsOrWarns(Due due) {
        SpoolRows x = new SpoolRows(16);
        Due.open(x, 1, 1, 5);
        x.limit(1, 5, true);
        due.is("a line, it ends", x.line(1, Due.A_LINE), 0);
        x.limit(1, 5, false);
        due.is("a line, it warns", x.line(1, Due.A_LINE), 2);
        x.limit(1, 5, true);
        due.is("a line, it ends again", x.line(1, Due.A_LINE), 0);
        due.is("lines", x.state(1, 1), 6);
    }

    /** Promise 4: "An output's limit": no other's. */
    private static void onlyItsOwnOutput(Due due) {
        SpoolRows x = new SpoolRows(16);
        Due.open(x, 1, 1, 1);
        Due.open(x, 1, 1, 1);
        x.limit(1, 1, true);
        due.is("a line of another of the job", x.line(2, Due.A_LINE), 1);
        x.limit(2, 9, false);
        due.is("a line of the first", x.line(1, Due.A_LINE), 0);
    }

    /** Promise 4: "An output's limit is so many lines .. : 1; -2 when it is gone": one that is not gone gets it. */
    private static void itIsNotGone(Due due) {
        SpoolRows x = Due.oneOfEachState();
        String before = Due.picture(x);
        due.is("an open one", x.limit(1, 1, true), 1);
        due.is("a released one", x.limit(2, 1, true), 1);
        due.is("a printing one", x.limit(3, 1, true), 1);
        due.isStill("after limits", x, before);
        x.hold(1, true);
        due.is("a held one", x.limit(1, 1, false), 1);
    }

    /** Promise 4: "-2 when it is gone". */
    private static void itIsGone(Due due) {
        SpoolRows x = Due.oneOfEachState();
        due.is("a printed one", x.limit(4, 1, true), -2);
        due.is("a purged one", x.limit(5, 1, true), -2);
        due.is("a printed one, none", x.limit(4, 0, false), -2);
        due.is("a purged one, none", x.limit(5, 0, false), -2);
        due.is("a purged one, below 0", x.limit(5, -1, true), SpoolRows.NONE);
    }

    /** Promise 4: "NONE when there is none such". */
    private static void thereIsNoneSuch(Due due) {
        SpoolRows x = new SpoolRows(16);
        due.is("limit(1, 1, true) where there is none at all", x.limit(1, 1, true), SpoolRows.NONE);
        Due.open(x, 1, 1, 1);
        for (int output : Due.numbersOfNone(1)) {
            due.is("limit(" + output + ", 1, true)", x.limit(output, 1, true), SpoolRows.NONE);
            due.is("limit(" + output + ", 0, false)", x.limit(output, 0, false), SpoolRows.NONE);
        }
        due.is("a line of the one that is there", x.line(1, Due.A_LINE), 1);
    }

    /** Promise 4: "NONE when .. lines is below 0": the limit stays as it was. */
    private static void linesBelowZero(Due due) {
        SpoolRows x = new SpoolRows(16);
        Due.open(x, 1, 1, 1);
        int[] wrong = {-1, -2, Integer.MIN_VALUE, Integer.MIN_VALUE + 1};
        for (int lines : wrong) {
            due.is("limit(1, " + lines + ", true)", x.limit(1, lines, true), SpoolRows.NONE);
            due.is("a line without a limit", x.line(1, Due.A_LINE), 1);
        }
        x.limit(1, 1, true);
        for (int lines : wrong) {
            due.is("limit(1, " + lines + ", false)", x.limit(1, lines, false), SpoolRows.NONE);
            due.is("a line beyond the limit that ends", x.line(1, Due.A_LINE), 0);
        }
    }
}
