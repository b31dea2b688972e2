/** What it is: the README's way of use, and that an object holds all that its 512 calls can bring. */
public final class UseTest {
    public static void main(String[] args) {
        Due due = new Due();
        theExampleOfTheReadme(due);
        asManyLinesAsCalls(due);
        asManyOutputsAsCalls(due);
        asManySegmentsAsCalls(due);
        asManyPrintedAsCalls(due);
        asManyCutsAsCalls(due);
        due.finish();
    }

    /** README.md, "Use": each call of its example, with the answer that it tells there. */
    private static void theExampleOfTheReadme(Due due) {
        SpoolRows spool = new SpoolRows(16);
        int output = spool.output(7, 1, 2);
        due.is("output(7, 1, 2)", output, 1);
        due.is("line(output, 80 * 256 + 'A')", spool.line(output, 80 * 256 + 'A'), 1);
        due.is("search('A')", spool.search('A'), 1);
        due.is("end(7)", spool.end(7), 1);
        int writer = spool.writer(8);
        due.is("writer(8)", writer, 1);
        due.is("next(writer)", spool.next(writer), 1);
        due.is("print(writer, 10)", spool.print(writer, 10), 2);
        due.is("order(0)", spool.order(0), 1);
        due.is("state(output, 0)", spool.state(output, 0), 4);
        due.is("count(0)", spool.count(0), 16);
    }

    /** Promises 3 and 14; What it is: "An object is used for at most 512 calls after it has been made". */
    private static void asManyLinesAsCalls(Due due) {
        SpoolRows x = new SpoolRows(65536);
        x.output(1, 0, 1);
        for (int i = 1; i <= 510; i++) {
            due.is("line " + i, x.line(1, Due.A_LINE), 1);
        }
        due.is("the 512th call", x.search(65), 510);
        SpoolRows y = new SpoolRows(64);
        y.output(1, 0, 1);
        for (int i = 1; i <= 511; i++) {
            due.is("line " + i + " in a room of 64", y.line(1, Due.A_LINE), 1);
        }
    }

    /** Promise 2; What it is: "An object is used for at most 512 calls after it has been made". */
    private static void asManyOutputsAsCalls(Due due) {
        SpoolRows x = new SpoolRows(1);
        for (int i = 1; i <= 512; i++) {
            due.is("output number " + i, x.output(i, i % 8, i % 9 + 1), i);
        }
    }

    /** Promise 6; What it is: "An object is used for at most 512 calls after it has been made". */
    private static void asManySegmentsAsCalls(Due due) {
        SpoolRows x = new SpoolRows(512);
        x.output(1, 0, 1);
        for (int i = 1; i <= 254; i++) {
            due.is("a line of output " + i, x.line(i, Due.A_LINE), 1);
            due.is("segment(" + i + ")", x.segment(i), i + 1);
        }
        due.is("free pages", x.count(0), 512 - 254);
        due.is("outputs that are not gone", x.count(1), 255);
        due.is("the job's end", x.end(1), 1);
    }

    /** Promises 8, 9 and 15; What it is: "An object is used for at most 512 calls after it has been made". */
    private static void asManyPrintedAsCalls(Due due) {
        SpoolRows x = new SpoolRows(1);
        x.writer(8);
        x.output(1, 0, 1);
        int printed = 101;
        for (int i = 1; i <= printed; i++) {
            x.line(i, Due.A_LINE);
            x.segment(i);
            due.is("next(1)", x.next(1), i);
            due.is("print(1, 1)", x.print(1, 1), 1);
        }
        for (int i = 0; i < printed; i++) {
            due.is("order(" + i + ")", x.order(i), i + 1);
        }
        due.is("order(" + printed + ")", x.order(printed), 0);
    }

    /** Promises 10 and 17; What it is: "An object is used for at most 512 calls after it has been made". */
    private static void asManyCutsAsCalls(Due due) {
        SpoolRows x = new SpoolRows(16);
        Due.printing(x, 1, 1, 32);
        for (int i = 1; i <= 230; i++) {
            due.is("print(1, 3)", x.print(1, 3), 3);
            due.is("cut(1)", x.cut(1), 0);
        }
        due.is("pages printed by all", x.count(3), 690);
        due.is("pages printed again", x.count(4), 690);
    }
}
