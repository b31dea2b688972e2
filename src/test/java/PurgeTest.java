/** Promise 11. */
public final class PurgeTest {
    public static void main(String[] args) {
        Due due = new Due();
        openAndReleasedOnesGo(due);
        printingOnesWait(due);
        goneOrWrong(due);
        due.finish();
    }

    private static void openAndReleasedOnesGo(Due due) {
        SpoolRows x = new SpoolRows(16);
        Due.released(x, 1, 1, 9);
        Due.open(x, 2, 1, 1);
        Due.open(x, 2, 1, 0);
        x.hold(1, true);
        due.is("a released and held one", x.purge(1), 1);
        due.is("it is gone and not held", x.state(1, 0), 5);
        due.is("free pages", x.count(0), 15);
        x.hold(2, true);
        due.is("an open and held one", x.purge(2), 1);
        due.is("it is gone and not held", x.state(2, 0), 5);
        due.is("free pages", x.count(0), 16);
        due.is("one without lines", x.purge(3), 1);
        due.is("free pages", x.count(0), 16);
        due.is("outputs that are not gone", x.count(1), 0);
        due.is("the order", x.order(0), 0);
    }

    private static void printingOnesWait(Due due) {
        SpoolRows x = new SpoolRows(16);
        Due.printing(x, 1, 1, 16);
        due.is("a printing one", x.purge(1), 0);
        due.is("it prints on", x.state(1, 0), 3);
        due.is("a printing one again", x.purge(1), 0);
        due.is("free pages", x.count(0), 14);
        due.is("print(1, 1)", x.print(1, 1), 1);
        due.is("it prints on", x.state(1, 0), 3);
        due.is("print(1, 1)", x.print(1, 1), 1);
        due.is("it is gone as printed", x.state(1, 0), 4);
        due.is("the order", x.order(0), 1);
        due.is("free pages", x.count(0), 16);
        Due.printing(x, 1, 1, 16);
        x.purge(2);
        x.cut(2);
        due.is("one whose writer is cut", x.state(2, 0), 5);
    }

    private static void goneOrWrong(Due due) {
        SpoolRows x = new SpoolRows(16);
        Due.printing(x, 1, 1, 1);
        x.print(1, 1);
        due.is("a printed one", x.purge(1), -2);
        due.is("it stays printed", x.state(1, 0), 4);
        Due.open(x, 1, 1, 1);
        x.purge(2);
        due.is("a purged one", x.purge(2), -2);
        due.is("free pages", x.count(0), 16);
        int[] outputs = {0, -1, 3, Integer.MIN_VALUE, Integer.MAX_VALUE};
        for (int output : outputs) {
            due.is("purge(" + output + ")", x.purge(output), SpoolRows.NONE);
        }
    }
}
