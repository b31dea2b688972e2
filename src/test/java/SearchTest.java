/** Promise 14. */
public final class SearchTest {
    public static void main(String[] args) {
        Due due = new Due();
        signsAndLengths(due);
        goneOutputsAreNotSearched(due);
        asManyLinesAsCallsAllow(due);
        wrongInputsAreNone(due);
        due.finish();
    }

    private static void signsAndLengths(Due due) {
        SpoolRows x = new SpoolRows(16);
        x.output(1, 0, 1);
        x.line(1, 65);
        due.is("a line of length 0", x.search(65), 0);
        x.line(1, 256 + 65);
        due.is("a line of length 1", x.search(65), 1);
        x.line(1, 132 * 256 + 65);
        due.is("a line of length 132 counts once", x.search(65), 2);
        due.is("another sign", x.search(66), 0);
        x.line(1, 256);
        x.line(1, 256 + 255);
        due.is("sign 0", x.search(0), 1);
        due.is("sign 255", x.search(255), 1);
        due.is("search(1), a sign that is a length only", x.search(1), 0);
    }

    private static void goneOutputsAreNotSearched(Due due) {
        SpoolRows x = new SpoolRows(16);
        for (int job = 1; job <= 4; job++) {
            Due.open(x, job, 1, job);
        }
        due.is("four open ones", x.search(65), 10);
        x.end(2);
        x.hold(2, true);
        due.is("one is released and held", x.search(65), 10);
        x.end(3);
        x.next(x.writer(8));
        due.is("one is printing", x.search(65), 10);
        x.print(1, 1);
        due.is("one is printed", x.search(65), 7);
        x.purge(4);
        due.is("one is purged", x.search(65), 3);
        x.purge(1);
        x.purge(2);
        due.is("all are gone", x.search(65), 0);
    }

    private static void asManyLinesAsCallsAllow(Due due) {
        SpoolRows x = new SpoolRows(65536);
        x.output(1, 0, 1);
        for (int i = 1; i <= 510; i++) {
            due.is("line " + i, x.line(1, Due.A_LINE), 1);
        }
        due.is("the 512th call", x.search(65), 510);
    }

    private static void wrongInputsAreNone(Due due) {
        SpoolRows x = new SpoolRows(16);
        int[] wrong = {-1, 256, Integer.MIN_VALUE, Integer.MAX_VALUE};
        for (int c : wrong) {
            due.is("search(" + c + ")", x.search(c), SpoolRows.NONE);
        }
    }
}
