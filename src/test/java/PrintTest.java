/** Promise 9. */
public final class PrintTest {
    public static void main(String[] args) {
        Due due = new Due();
        copyAfterCopy(due);
        atMostWhatIsLeft(due);
        goneAsPrinted(due);
        writersPrintBesideEachOther(due);
        idleOrWrong(due);
        due.finish();
    }

    private static void copyAfterCopy(Due due) {
        SpoolRows x = new SpoolRows(16);
        Due.printing(x, 1, 3, 9);
        int[] copiesLeft = {3, 3, 2, 2, 1, 1};
        for (int page = 0; page < 6; page++) {
            due.is("pages printed before page " + page, x.state(1, 3), page);
            due.is("copies left before page " + page, x.state(1, 5), copiesLeft[page]);
            due.is("state before page " + page, x.state(1, 0), 3);
            due.is("print(1, 0)", x.print(1, 0), 0);
            due.is("print(1, 1) of page " + page, x.print(1, 1), 1);
        }
        due.is("state after all", x.state(1, 0), 4);
        due.is("pages printed after all", x.state(1, 3), 6);
        due.is("copies left after all", x.state(1, 5), 0);
        due.is("pages printed by all", x.count(3), 6);
    }

    private static void atMostWhatIsLeft(Due due) {
        SpoolRows x = new SpoolRows(16);
        Due.printing(x, 1, 9, 24);
        due.is("print(1, 20)", x.print(1, 20), 20);
        due.is("print(1, the greatest)", x.print(1, Integer.MAX_VALUE), 7);
        due.is("state after all", x.state(1, 0), 4);
        due.is("pages printed by all", x.count(3), 27);
    }

    private static void goneAsPrinted(Due due) {
        SpoolRows x = new SpoolRows(16);
        Due.printing(x, 1, 1, 16);
        x.print(1, 1);
        due.is("free pages while it prints", x.count(0), 14);
        x.print(1, 1);
        due.is("free pages when it is printed", x.count(0), 16);
        due.is("outputs that are not gone", x.count(1), 0);
        due.is("search when it is printed", x.search(65), 0);
        due.is("the writer is idle", x.print(1, 1), -2);
        due.is("the order", x.order(0), 1);
    }

    private static void writersPrintBesideEachOther(Due due) {
        SpoolRows x = new SpoolRows(16);
        Due.printing(x, 1, 1, 17);
        Due.printing(x, 2, 1, 9);
        due.is("print(1, 2)", x.print(1, 2), 2);
        due.is("print(2, 1)", x.print(2, 1), 1);
        due.is("pages printed of 1", x.state(1, 3), 2);
        due.is("pages printed of 2", x.state(2, 3), 1);
        due.is("print(2, 5)", x.print(2, 5), 1);
        due.is("print(1, 5)", x.print(1, 5), 1);
        due.is("pages printed by all", x.count(3), 5);
    }

    private static void idleOrWrong(Due due) {
        SpoolRows x = new SpoolRows(16);
        x.writer(8);
        due.is("an idle one", x.print(1, 1), -2);
        due.is("an idle one, 0 pages", x.print(1, 0), -2);
        due.is("an idle one, wrong pages", x.print(1, -1), SpoolRows.NONE);
        Due.printing(x, 1, 1, 1);
        due.is("wrong pages", x.print(2, -1), SpoolRows.NONE);
        due.is("the least pages", x.print(2, Integer.MIN_VALUE), SpoolRows.NONE);
        int[] writers = {0, -1, 3, 10, Integer.MIN_VALUE, Integer.MAX_VALUE};
        for (int writer : writers) {
            due.is("print(" + writer + ", 1)", x.print(writer, 1), SpoolRows.NONE);
        }
        due.is("pages printed by all", x.count(3), 0);
    }
}
