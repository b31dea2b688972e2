/** Promise 5. */
public final class EndTest {
    public static void main(String[] args) {
        Due due = new Due();
        openOutputsAreReleased(due);
        heldOnesStayHeld(due);
        wrongJobsHaveNone(due);
        due.finish();
    }

    private static void openOutputsAreReleased(Due due) {
        SpoolRows x = new SpoolRows(16);
        Due.open(x, 7, 1, 1);
        Due.open(x, 7, 1, 0);
        Due.open(x, 8, 1, 1);
        Due.open(x, 7, 1, 9);
        due.is("end(7)", x.end(7), 3);
        due.is("one with lines", x.state(1, 0), 2);
        due.is("one without lines", x.state(2, 0), 5);
        due.is("one of another job", x.state(3, 0), 1);
        due.is("another with lines", x.state(4, 0), 2);
        due.is("free pages", x.count(0), 12);
        due.is("outputs that are not gone", x.count(1), 3);
        due.is("end(7) again", x.end(7), 0);
        due.is("one stays released", x.state(1, 0), 2);
        Due.open(x, 7, 1, 1);
        due.is("end(7) with one more", x.end(7), 1);
        x.next(x.writer(8));
        due.is("end(7) while one prints", x.end(7), 0);
        due.is("it prints on", x.state(1, 0), 3);
        x.output(7, 0, 1);
        x.purge(6);
        due.is("end(7) after a purge", x.end(7), 0);
    }

    private static void heldOnesStayHeld(Due due) {
        SpoolRows x = new SpoolRows(16);
        Due.open(x, 1, 1, 1);
        Due.open(x, 1, 1, 0);
        x.hold(1, true);
        x.hold(2, true);
        due.is("end(1)", x.end(1), 2);
        due.is("a held one with lines", x.state(1, 0), 8);
        due.is("a held one without lines is gone and not held", x.state(2, 0), 5);
    }

    private static void wrongJobsHaveNone(Due due) {
        SpoolRows x = new SpoolRows(16);
        x.output(1, 0, 1);
        int[] jobs = {0, -1, 2, 10000, Integer.MIN_VALUE, Integer.MAX_VALUE};
        for (int job : jobs) {
            due.is("end(" + job + ")", x.end(job), 0);
        }
        due.is("an output of another job", x.state(1, 0), 1);
    }
}
