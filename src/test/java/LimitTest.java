/** Promise 4. */
public final class LimitTest {
    public static void main(String[] args) {
        Due due = new Due();
        limitsMayChange(due);
        goneOutputsHaveNone(due);
        wrongInputsAreNone(due);
        due.finish();
    }

    private static void limitsMayChange(Due due) {
        SpoolRows x = new SpoolRows(16);
        Due.open(x, 1, 1, 5);
        due.is("limit(1, 5, true)", x.limit(1, 5, true), 1);
        due.is("line beyond", x.line(1, Due.A_LINE), 0);
        due.is("limit(1, 6, true)", x.limit(1, 6, true), 1);
        due.is("line up to the limit", x.line(1, Due.A_LINE), 1);
        due.is("line beyond", x.line(1, Due.A_LINE), 0);
        due.is("limit(1, 3, false), below its lines", x.limit(1, 3, false), 1);
        due.is("line beyond", x.line(1, Due.A_LINE), 2);
        due.is("limit(1, 3, true), below its lines", x.limit(1, 3, true), 1);
        due.is("line beyond", x.line(1, Due.A_LINE), 0);
        due.is("limit(1, 0, true) is none", x.limit(1, 0, true), 1);
        due.is("line without a limit", x.line(1, Due.A_LINE), 1);
        due.is("limit(1, 0, false) is none", x.limit(1, 0, false), 1);
        due.is("line without a limit", x.line(1, Due.A_LINE), 1);
        due.is("the greatest limit", x.limit(1, Integer.MAX_VALUE, true), 1);
        due.is("line below it", x.line(1, Due.A_LINE), 1);
        x.output(1, 0, 1);
        x.limit(1, 1, true);
        Due.lines(x, 2, 1);
        due.is("a limit is its own output's", x.line(2, Due.A_LINE), 1);
    }

    private static void goneOutputsHaveNone(Due due) {
        SpoolRows x = new SpoolRows(16);
        Due.released(x, 1, 1, 1);
        due.is("a released one", x.limit(1, 1, true), 1);
        x.next(x.writer(8));
        due.is("a printing one", x.limit(1, 1, true), 1);
        x.print(1, 1);
        due.is("a printed one", x.limit(1, 1, true), -2);
        x.output(1, 0, 1);
        x.purge(2);
        due.is("a purged one", x.limit(2, 1, true), -2);
        due.is("a wrong limit of a purged one", x.limit(2, -1, true), SpoolRows.NONE);
    }

    private static void wrongInputsAreNone(Due due) {
        SpoolRows x = new SpoolRows(16);
        Due.open(x, 1, 1, 1);
        due.is("limit(0, 1, true)", x.limit(0, 1, true), SpoolRows.NONE);
        due.is("limit(2, 1, true)", x.limit(2, 1, true), SpoolRows.NONE);
        due.is("limit(-1, 1, true)", x.limit(-1, 1, true), SpoolRows.NONE);
        due.is("limit(1, -1, true)", x.limit(1, -1, true), SpoolRows.NONE);
        due.is("limit(1, the least, true)", x.limit(1, Integer.MIN_VALUE, true), SpoolRows.NONE);
        due.is("line after wrong limits", x.line(1, Due.A_LINE), 1);
    }
}
