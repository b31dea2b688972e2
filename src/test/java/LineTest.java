/** Promise 3. */
public final class LineTest {
    public static void main(String[] args) {
        Due due = new Due();
        linesTakePages(due);
        limitsEndOrWarn(due);
        noPageIsFree(due);
        onlyOpenOutputsTakeLines(due);
        wrongInputsAreNone(due);
        due.finish();
    }

    private static void linesTakePages(Due due) {
        SpoolRows x = new SpoolRows(16);
        x.output(1, 0, 1);
        for (int i = 1; i <= 24; i++) {
            due.is("line " + i, x.line(1, i % 2 == 0 ? 0 : 132 * 256 + 255), 1);
            due.is("lines after line " + i, x.state(1, 1), i);
            due.is("pages after line " + i, x.state(1, 2), (i + 7) / 8);
            due.is("free pages after line " + i, x.count(0), 16 - (i + 7) / 8);
        }
    }

    private static void limitsEndOrWarn(Due due) {
        SpoolRows x = new SpoolRows(16);
        x.output(1, 0, 1);
        x.limit(1, 2, true);
        due.is("line 1 of 2", x.line(1, Due.A_LINE), 1);
        due.is("line 2 of 2", x.line(1, Due.A_LINE), 1);
        due.is("line 3, the limit ends", x.line(1, Due.A_LINE), 0);
        due.is("lines after it", x.state(1, 1), 2);
        due.is("search after it", x.search(65), 2);
        x.limit(1, 2, false);
        due.is("line 3, the limit warns", x.line(1, Due.A_LINE), 2);
        due.is("line 4, the limit warns", x.line(1, Due.A_LINE), 2);
        due.is("lines after it", x.state(1, 1), 4);
        due.is("search after it", x.search(65), 4);
    }

    private static void noPageIsFree(Due due) {
        SpoolRows x = new SpoolRows(2);
        Due.open(x, 1, 1, 8);
        Due.open(x, 1, 1, 7);
        due.is("a page is needed and none is free", x.line(1, Due.A_LINE), -3);
        due.is("lines after it", x.state(1, 1), 8);
        due.is("the page that is there has a line left", x.line(2, Due.A_LINE), 1);
        due.is("and then none", x.line(2, Due.A_LINE), -3);
        x.limit(1, 8, false);
        due.is("none is free, beyond a limit that warns", x.line(1, Due.A_LINE), -3);
        x.limit(1, 8, true);
        due.is("none is free, beyond a limit that ends", x.line(1, Due.A_LINE), 0);
        x.limit(1, 0, true);
        x.purge(2);
        due.is("a page is free again", x.line(1, Due.A_LINE), 1);
    }

    private static void onlyOpenOutputsTakeLines(Due due) {
        SpoolRows x = new SpoolRows(16);
        int writer = Due.printing(x, 1, 1, 1);
        due.is("a printing one", x.line(1, Due.A_LINE), -2);
        x.print(writer, 1);
        due.is("a printed one", x.line(1, Due.A_LINE), -2);
        due.is("a released one", x.line(Due.released(x, 1, 1, 1), Due.A_LINE), -2);
        x.purge(2);
        due.is("a purged one", x.line(2, Due.A_LINE), -2);
        Due.open(x, 1, 1, 0);
        x.hold(3, true);
        due.is("a held one that is open", x.line(3, Due.A_LINE), 1);
    }

    private static void wrongInputsAreNone(Due due) {
        SpoolRows x = new SpoolRows(16);
        x.output(1, 0, 1);
        int[] outputs = {0, -1, 2, Integer.MIN_VALUE, Integer.MAX_VALUE};
        for (int output : outputs) {
            due.is("line(" + output + ", 1)", x.line(output, 1), SpoolRows.NONE);
        }
        int[] lines = {-1, 132 * 256 + 256, Integer.MIN_VALUE, Integer.MAX_VALUE};
        for (int n : lines) {
            due.is("line(1, " + n + ")", x.line(1, n), SpoolRows.NONE);
        }
        due.is("lines after wrong inputs", x.state(1, 1), 0);
        x.purge(1);
        due.is("a wrong line to one that is not open", x.line(1, -1), SpoolRows.NONE);
    }
}
