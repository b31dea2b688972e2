/** Promise 12. */
public final class HoldTest {
    public static void main(String[] args) {
        Due due = new Due();
        openAndReleasedOnes(due);
        others(due);
        due.finish();
    }

    private static void openAndReleasedOnes(Due due) {
        SpoolRows x = new SpoolRows(16);
        Due.open(x, 1, 1, 1);
        due.is("hold an open one", x.hold(1, true), 0);
        due.is("its state", x.state(1, 0), 7);
        due.is("hold it again", x.hold(1, true), 1);
        due.is("hold it not", x.hold(1, false), 1);
        due.is("its state", x.state(1, 0), 1);
        due.is("hold it not again", x.hold(1, false), 0);
        x.end(1);
        due.is("hold a released one", x.hold(1, true), 0);
        due.is("its state", x.state(1, 0), 8);
        due.is("a held one is not gone", x.count(1), 1);
        due.is("hold it not", x.hold(1, false), 1);
        due.is("its state", x.state(1, 0), 2);
    }

    private static void others(Due due) {
        SpoolRows x = new SpoolRows(16);
        Due.printing(x, 1, 1, 1);
        due.is("a printing one", x.hold(1, true), -2);
        due.is("its state", x.state(1, 0), 3);
        due.is("a printing one, not", x.hold(1, false), -2);
        x.print(1, 1);
        due.is("a printed one", x.hold(1, true), -2);
        due.is("its state", x.state(1, 0), 4);
        x.output(1, 0, 1);
        x.purge(2);
        due.is("a purged one", x.hold(2, true), -2);
        due.is("its state", x.state(2, 0), 5);
        int[] outputs = {0, -1, 3, Integer.MIN_VALUE, Integer.MAX_VALUE};
        for (int output : outputs) {
            due.is("hold(" + output + ", true)", x.hold(output, true), SpoolRows.NONE);
        }
    }
}
