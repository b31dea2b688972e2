/** Promise 5: end. */
public final class EndTest {
    public static void main(String[] args) {
        Due due = new Due();
        openOnesAreReleased(due);
        thoseWithoutLinesArePurged(due);
        aLineOfLengthZeroIsALine(due);
        howManyWereOpen(due);
        noneIsOpen(due);
        othersStayAsTheyAre(due);
        heldOnes(due);
        jobsThatHaveNone(due);
        aJobMayGoOn(due);
        due.finish();
    }

    /** Promise 5: "A job ends: its open outputs are released". */
    private static void openOnesAreReleased(Due due) {
        SpoolRows x = new SpoolRows(16);
        Due.open(x, 7, 1, 1);
        Due.open(x, 8, 1, 1);
        Due.open(x, 7, 1, 9);
        due.is("end(7)", x.end(7), 2);
        due.is("one of it", x.state(1, 0), 2);
        due.is("one of another job", x.state(2, 0), 1);
        due.is("another of it", x.state(3, 0), 2);
        due.is("its lines", x.state(3, 1), 9);
        due.is("free pages", x.count(0), 12);
    }

    /** Promise 5: "(those without lines are purged)". */
    private static void thoseWithoutLinesArePurged(Due due) {
        SpoolRows x = new SpoolRows(16);
        x.output(7, 0, 1);
        x.output(8, 0, 1);
        x.output(7, 0, 1);
        x.line(3, Due.A_LINE);
        due.is("end(7)", x.end(7), 2);
        due.is("one without lines", x.state(1, 0), 5);
        due.is("one without lines of another job", x.state(2, 0), 1);
        due.is("one with a line", x.state(3, 0), 2);
        due.is("outputs that are not gone", x.count(1), 2);
        due.is("free pages", x.count(0), 15);
        due.is("none was printed", x.order(0), 0);
    }

    /** Promise 5: "(those without lines are purged)": a line of length 0 is a line. */
    private static void aLineOfLengthZeroIsALine(Due due) {
        SpoolRows x = new SpoolRows(16);
        x.output(1, 0, 1);
        x.line(1, 0);
        due.is("end(1)", x.end(1), 1);
        due.is("it is released", x.state(1, 0), 2);
        due.is("and can be printed", x.next(x.writer(8)), 1);
    }

    /** Promise 5: "how many were open", those that are purged among them. */
    private static void howManyWereOpen(Due due) {
        for (int withLines = 0; withLines <= 3; withLines++) {
            for (int without = 0; without <= 3; without++) {
                SpoolRows x = new SpoolRows(16);
                for (int i = 0; i < withLines; i++) {
                    Due.open(x, 9999, 1, 1);
                }
                for (int i = 0; i < without; i++) {
                    Due.open(x, 9999, 1, 0);
                }
                due.is("end of " + withLines + " and " + without + " empty", x.end(9999), withLines + without);
                due.is("outputs that are not gone", x.count(1), withLines);
            }
        }
    }

    /** Promise 5: "how many were open": 0 when the job's outputs are all released, printing or gone. */
    private static void noneIsOpen(Due due) {
        SpoolRows x = new SpoolRows(16);
        Due.open(x, 7, 1, 1);
        Due.open(x, 7, 1, 1);
        Due.open(x, 7, 1, 1);
        due.is("end(7)", x.end(7), 3);
        due.is("end(7) again", x.end(7), 0);
        x.writer(8);
        x.next(1);
        x.print(1, 1);
        x.next(1);
        x.purge(3);
        String before = Due.picture(x);
        due.is("end(7) with one printed, one printing, one purged", x.end(7), 0);
        due.isStill("after an end of none", x, before);
    }

    /** Promise 5: "its open outputs": those in other states are neither counted nor changed. */
    private static void othersStayAsTheyAre(Due due) {
        SpoolRows x = new SpoolRows(16);
        for (int i = 1; i <= 4; i++) {
            Due.open(x, 7, 1, 1);
        }
        x.purge(1);
        x.segment(2);
        x.next(x.writer(8));
        due.is("end(7)", x.end(7), 3);
        due.is("a purged one", x.state(1, 0), 5);
        due.is("a printing one", x.state(2, 0), 3);
        due.is("an open one", x.state(3, 0), 2);
        due.is("an open one", x.state(4, 0), 2);
        due.is("the empty rest of a segment", x.state(5, 0), 5);
    }

    /** Promise 5: "released (those without lines are purged)"; Terms: gone ones are "not held". */
    private static void heldOnes(Due due) {
        SpoolRows x = new SpoolRows(16);
        Due.open(x, 1, 1, 1);
        Due.open(x, 1, 1, 0);
        x.hold(1, true);
        x.hold(2, true);
        due.is("end(1)", x.end(1), 2);
        due.is("a held one with lines stays held", x.state(1, 0), 8);
        due.is("a held one without lines is not held any more", x.state(2, 0), 5);
    }

    /** Promise 5: "how many were open": 0 for a job that has no output, or that no output can have. */
    private static void jobsThatHaveNone(Due due) {
        due.is("end(1) where there is none at all", new SpoolRows(16).end(1), 0);
        SpoolRows x = new SpoolRows(16);
        Due.open(x, 1, 1, 1);
        String before = Due.picture(x);
        int[] jobs = {0, -1, 2, 257, 9999, 10000, 65537, Integer.MIN_VALUE, Integer.MIN_VALUE + 1, Integer.MAX_VALUE};
        for (int job : jobs) {
            due.is("end(" + job + ")", x.end(job), 0);
        }
        due.isStill("after ends of other jobs", x, before);
    }

    /** Promise 5: "A job ends": it may have new outputs, and end again. */
    private static void aJobMayGoOn(Due due) {
        SpoolRows x = new SpoolRows(16);
        Due.released(x, 1, 1, 1);
        due.is("a new output of it", x.output(1, 0, 1), 2);
        due.is("it is open", x.line(2, Due.A_LINE), 1);
        due.is("end(1) again", x.end(1), 1);
        due.is("it is released", x.state(2, 0), 2);
    }
}
