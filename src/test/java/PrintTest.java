/** Promise 9: print. */
public final class PrintTest {
    public static void main(String[] args) {
        Due due = new Due();
        atMostSoManyPages(due);
        noPages(due);
        copyAfterCopy(due);
        whenAllIsPrinted(due);
        lessThanAllIsNotPrinted(due);
        writersPrintBesideEachOther(due);
        itIsIdle(due);
        thereIsNoneSuch(due);
        pagesBelowZero(due);
        due.finish();
    }

    /** Promise 9: "prints at most so many pages of its output: how many", around what is left. */
    private static void atMostSoManyPages(Due due) {
        int[] asked = {1, 5, 6, 7, 256, 65536, Integer.MAX_VALUE - 1, Integer.MAX_VALUE};
        for (int pages : asked) {
            SpoolRows x = new SpoolRows(16);
            Due.printing(x, 1, 3, 9);
            int want = Math.min(pages, 6);
            due.is("print(1, " + pages + ") of 6", x.print(1, pages), want);
            due.is("pages printed", x.state(1, 3), want);
            due.is("pages printed by all", x.count(3), want);
            due.is("its state", x.state(1, 0), want == 6 ? 4 : 3);
        }
        SpoolRows x = new SpoolRows(16);
        Due.printing(x, 1, 9, 24);
        x.print(1, 20);
        due.is("print(1, the greatest) of the last 7", x.print(1, Integer.MAX_VALUE), 7);
        due.is("pages printed by all", x.count(3), 27);
    }

    /** Promise 9: "at most so many pages", of which 0 is the least ("NONE when .. pages is below 0"). */
    private static void noPages(Due due) {
        SpoolRows x = new SpoolRows(16);
        Due.printing(x, 1, 1, 9);
        String before = Due.picture(x);
        due.is("print(1, 0) at the beginning", x.print(1, 0), 0);
        due.isStill("after no page", x, before);
        x.print(1, 1);
        due.is("print(1, 0) before the last page", x.print(1, 0), 0);
        due.is("it prints on", x.state(1, 0), 3);
    }

    /** Promise 9: "prints at most so many pages of its output"; Terms: "It prints its pages, copy after copy". */
    private static void copyAfterCopy(Due due) {
        SpoolRows x = new SpoolRows(16);
        Due.printing(x, 1, 3, 9);
        int[] copiesLeft = {3, 3, 2, 2, 1, 1};
        for (int page = 0; page < 6; page++) {
            due.is("pages printed before page " + page, x.state(1, 3), page);
            due.is("copies left before page " + page, x.state(1, 5), copiesLeft[page]);
            due.is("state before page " + page, x.state(1, 0), 3);
            due.is("print(1, 1) of page " + page, x.print(1, 1), 1);
        }
        due.is("state after all", x.state(1, 0), 4);
        due.is("pages printed after all", x.state(1, 3), 6);
        due.is("copies left after all", x.state(1, 5), 0);
    }

    /** Promise 9, Terms: "When all is printed the output is printed, the writer idle", for all numbers of copies. */
    private static void whenAllIsPrinted(Due due) {
        int[] lines = {1, 7, 8, 9, 16, 17};
        for (int copies = 1; copies <= 9; copies++) {
            for (int howMany : lines) {
                SpoolRows x = new SpoolRows(16);
                Due.printing(x, 1, copies, howMany);
                int all = (howMany + 7) / 8 * copies;
                due.is("all but one of " + all, x.print(1, all - 1), all - 1);
                due.is("it prints on", x.state(1, 0), 3);
                due.is("its pages stay taken", x.count(0), 16 - (howMany + 7) / 8);
                due.is("the last of " + all, x.print(1, 1), 1);
                due.is("it is printed", x.state(1, 0), 4);
                due.is("its pages are free again", x.count(0), 16);
                due.is("it is gone", x.count(1), 0);
                due.is("it is in the order", x.order(0), 1);
                due.is("the writer is idle", x.next(1), 0);
            }
        }
    }

    /** Promise 9, Terms: "When all is printed" and not before: it is there, is found, and is not in the order. */
    private static void lessThanAllIsNotPrinted(Due due) {
        SpoolRows x = new SpoolRows(16);
        Due.printing(x, 1, 2, 16);
        x.print(1, 3);
        due.is("outputs that are not gone", x.count(1), 1);
        due.is("its lines are found", x.search(65), 16);
        due.is("the order", x.order(0), 0);
        due.is("the writer is not idle", x.next(1), -2);
    }

    /** Promise 9: "of its output": each writer of its own. */
    private static void writersPrintBesideEachOther(Due due) {
        SpoolRows x = new SpoolRows(16);
        Due.printing(x, 1, 1, 17);
        Due.printing(x, 2, 1, 9);
        due.is("print(1, 2)", x.print(1, 2), 2);
        due.is("print(2, 1)", x.print(2, 1), 1);
        due.is("pages printed of 1", x.state(1, 3), 2);
        due.is("pages printed of 2", x.state(2, 3), 1);
        due.is("print(2, 5)", x.print(2, 5), 1);
        due.is("the first prints on", x.state(1, 0), 3);
        due.is("print(1, 5)", x.print(1, 5), 1);
        due.is("pages printed by all", x.count(3), 5);
    }

    /** Promise 9: "-2 when it is idle". */
    private static void itIsIdle(Due due) {
        SpoolRows x = new SpoolRows(16);
        x.writer(8);
        due.is("a new one", x.print(1, 1), -2);
        due.is("a new one, no pages", x.print(1, 0), -2);
        Due.released(x, 1, 1, 1);
        due.is("one that could take an output", x.print(1, 1), -2);
        x.next(1);
        x.print(1, 1);
        due.is("one whose output is printed", x.print(1, 1), -2);
        Due.released(x, 1, 1, 9);
        x.next(1);
        x.print(1, 1);
        x.purge(2);
        x.cut(1);
        due.is("one whose output is purged", x.print(1, 1), -2);
        due.is("pages printed by all", x.count(3), 2);
    }

    /** Promise 9: "NONE when there is none such". */
    private static void thereIsNoneSuch(Due due) {
        due.is("print(1, 1) where there is no writer at all", new SpoolRows(16).print(1, 1), SpoolRows.NONE);
        SpoolRows x = new SpoolRows(16);
        Due.printing(x, 1, 1, 9);
        String before = Due.picture(x);
        for (int writer : Due.numbersOfNone(1)) {
            due.is("print(" + writer + ", 1)", x.print(writer, 1), SpoolRows.NONE);
        }
        due.isStill("after prints of none", x, before);
    }

    /** Promise 9: "NONE when .. pages is below 0", of an idle writer, too. */
    private static void pagesBelowZero(Due due) {
        SpoolRows x = new SpoolRows(16);
        Due.printing(x, 1, 1, 17);
        x.print(1, 1);
        x.writer(8);
        String before = Due.picture(x);
        int[] wrong = {-1, -2, -256, Integer.MIN_VALUE + 1, Integer.MIN_VALUE};
        for (int pages : wrong) {
            due.is("print(1, " + pages + ")", x.print(1, pages), SpoolRows.NONE);
            due.is("print(2, " + pages + "), idle", x.print(2, pages), SpoolRows.NONE);
        }
        due.isStill("after wrong pages", x, before);
    }
}
