/** Promise 2. */
public final class OutputTest {
    public static void main(String[] args) {
        Due due = new Due();
        numbersCountUp(due);
        wrongInputsAreNone(due);
        reservedPagesAreKept(due);
        goneOutputsDoNotCountForTheirJob(due);
        thousandOutputs(due);
        due.finish();
    }

    private static void numbersCountUp(Due due) {
        SpoolRows x = new SpoolRows(16);
        due.is("output(1, 0, 1)", x.output(1, 0, 1), 1);
        due.is("output(9999, 7, 9)", x.output(9999, 7, 9), 2);
        x.purge(1);
        due.is("output after a purge", x.output(1, 0, 1), 3);
        due.is("state of a new output", x.state(2, 0), 1);
        due.is("lines of a new output", x.state(2, 1), 0);
        due.is("pages of a new output", x.state(2, 2), 0);
        due.is("pages printed of a new output", x.state(2, 3), 0);
        due.is("job of a new output", x.state(2, 4), 9999);
        due.is("copies of a new output", x.state(2, 5), 9);
        due.is("what a new output is routed to", x.route(2, 0), 0);
        due.is("a new output takes no page", x.count(0), 16);
    }

    private static void wrongInputsAreNone(Due due) {
        SpoolRows x = new SpoolRows(16);
        int[][] wrong = {{0, 0, 1}, {-1, 0, 1}, {10000, 0, 1}, {1, -1, 1}, {1, 8, 1}, {1, 0, 0}, {1, 0, 10},
            {1, 0, -1}, {Integer.MIN_VALUE, 0, 1}, {1, Integer.MAX_VALUE, 1}};
        for (int[] w : wrong) {
            due.is("output(" + w[0] + ", " + w[1] + ", " + w[2] + ")", x.output(w[0], w[1], w[2]), SpoolRows.NONE);
        }
        due.is("outputs after wrong inputs", x.count(1), 0);
        due.is("the first that is right", x.output(1, 0, 1), 1);
        due.is("wrong input where there is no room", new SpoolRows(0).output(0, 0, 1), SpoolRows.NONE);
    }

    private static void reservedPagesAreKept(Due due) {
        // A room of 17 has 2 reserved pages, the whole part of an eighth.
        SpoolRows x = new SpoolRows(17);
        Due.open(x, 1, 1, 14 * 8);
        due.is("free pages", x.count(0), 3);
        due.is("a new job with 3 free", x.output(2, 0, 1), 2);
        Due.lines(x, 1, 8);
        due.is("free pages", x.count(0), 2);
        due.is("a new job with 2 free", x.output(3, 0, 1), 0);
        due.is("a job with an output with 2 free", x.output(1, 0, 1), 3);
        due.is("a job with an output without lines", x.output(2, 0, 1), 4);
        Due.lines(x, 1, 16);
        due.is("free pages", x.count(0), 0);
        due.is("a job with an output with none free", x.output(1, 0, 1), 5);
        due.is("a room of 0", new SpoolRows(0).output(1, 0, 1), 0);
        due.is("a room of 7 reserves none", new SpoolRows(7).output(1, 0, 1), 1);
    }

    private static void goneOutputsDoNotCountForTheirJob(Due due) {
        SpoolRows x = new SpoolRows(8);
        x.output(2, 0, 1);
        x.output(3, 0, 1);
        Due.open(x, 1, 1, 7 * 8);
        x.purge(1);
        due.is("a job whose only output is purged", x.output(2, 0, 1), 0);
        due.is("a job whose output is there", x.output(3, 0, 1), 4);
        x.end(1);
        due.is("a job whose output is released", x.output(1, 0, 1), 5);
    }

    private static void thousandOutputs(Due due) {
        // Beyond what 512 calls can make; the face must answer there all the same.
        SpoolRows x = new SpoolRows(8);
        for (int i = 1; i <= 1000; i++) {
            due.is("output number " + i, x.output(1, 0, 1), i);
        }
        due.is("the output after 1000", x.output(1, 0, 1), 0);
        Due.lines(x, 1000, 1);
        due.is("the segment after 1000", x.segment(1000), 0);
        due.is("state after a segment that is refused", x.state(1000, 0), 1);
    }
}
