/** Promise 10. */
public final class CutTest {
    public static void main(String[] args) {
        Due due = new Due();
        checkpointsAtEveryFourthPage(due);
        itGoesOnFromThere(due);
        aWaitingPurgeIsDone(due);
        aCutThatPurgesTakesNoPageBack(due);
        aCutBeforeThePurgeStillCounts(due);
        idleOrWrong(due);
        due.finish();
    }

    private static void checkpointsAtEveryFourthPage(Due due) {
        for (int printed = 0; printed < 18; printed++) {
            SpoolRows x = new SpoolRows(16);
            Due.printing(x, 1, 9, 16);
            x.print(1, printed);
            due.is("cut(1) after " + printed + " pages", x.cut(1), printed / 4 * 4);
            due.is("pages printed after it", x.state(1, 3), printed / 4 * 4);
            due.is("copies left after it", x.state(1, 5), 9 - printed / 4 * 2);
            due.is("pages printed again", x.count(4), printed % 4);
            due.is("pages printed by all", x.count(3), printed);
            due.is("it is still printing", x.state(1, 0), 3);
            due.is("cut(1) again", x.cut(1), printed / 4 * 4);
            due.is("pages printed again after two cuts", x.count(4), printed % 4);
            due.is("print the rest", x.print(1, 99), 18 - printed / 4 * 4);
            due.is("pages printed by all, all counted", x.count(3), 18 + printed % 4);
        }
    }

    private static void itGoesOnFromThere(Due due) {
        SpoolRows x = new SpoolRows(16);
        Due.printing(x, 1, 1, 80);
        x.print(1, 6);
        due.is("cut(1) after 6 pages", x.cut(1), 4);
        x.print(1, 3);
        due.is("cut(1) after 7 pages", x.cut(1), 4);
        x.print(1, 4);
        due.is("cut(1) after 8 pages", x.cut(1), 8);
        due.is("pages printed again", x.count(4), 5);
        due.is("print the rest", x.print(1, 99), 2);
        due.is("it is printed", x.state(1, 0), 4);
    }

    private static void aWaitingPurgeIsDone(Due due) {
        SpoolRows x = new SpoolRows(16);
        Due.printing(x, 1, 1, 80);
        x.print(1, 6);
        x.purge(1);
        due.is("free pages while it waits", x.count(0), 6);
        due.is("cut(1)", x.cut(1), 4);
        due.is("it is purged", x.state(1, 0), 5);
        due.is("free pages", x.count(0), 16);
        due.is("outputs that are not gone", x.count(1), 0);
        due.is("lines that are found", x.search(65), 0);
        due.is("the order", x.order(0), 0);
        due.is("pages printed by all", x.count(3), 6);
        // Nothing of a purged output is printed again, so its pages stay printed.
        due.is("pages printed of it", x.state(1, 3), 6);
        due.is("pages that the cut let be printed again", x.count(4), 0);
        due.is("the writer is idle", x.cut(1), -2);
        Due.released(x, 1, 1, 1);
        due.is("it takes the next", x.next(1), 2);
        due.is("whose purging does not wait", x.cut(1), 0);
        due.is("so that it prints on", x.state(2, 0), 3);
    }

    private static void aCutThatPurgesTakesNoPageBack(Due due) {
        for (int printed = 0; printed < 18; printed++) {
            SpoolRows x = new SpoolRows(16);
            Due.printing(x, 1, 9, 16);
            x.print(1, printed);
            x.purge(1);
            due.is("cut(1) that purges after " + printed + " pages", x.cut(1), printed / 4 * 4);
            due.is("it is purged", x.state(1, 0), 5);
            due.is("pages printed of it stay", x.state(1, 3), printed);
            due.is("copies left of it stay", x.state(1, 5), 9 - printed / 2);
            due.is("no page is printed again", x.count(4), 0);
            due.is("pages printed by all", x.count(3), printed);
        }
    }

    private static void aCutBeforeThePurgeStillCounts(Due due) {
        SpoolRows x = new SpoolRows(16);
        Due.printing(x, 1, 1, 80);
        x.print(1, 7);
        x.cut(1);
        x.print(1, 1);
        x.purge(1);
        x.print(1, 1);
        due.is("cut(1) that purges", x.cut(1), 4);
        due.is("pages printed of it", x.state(1, 3), 6);
        due.is("pages of the first cut alone", x.count(4), 3);
        due.is("pages printed by all", x.count(3), 9);
    }

    private static void idleOrWrong(Due due) {
        SpoolRows x = new SpoolRows(16);
        Due.printing(x, 1, 1, 1);
        x.print(1, 1);
        due.is("an idle one", x.cut(1), -2);
        int[] writers = {0, -1, 2, 10, Integer.MIN_VALUE, Integer.MAX_VALUE};
        for (int writer : writers) {
            due.is("cut(" + writer + ")", x.cut(writer), SpoolRows.NONE);
        }
    }
}
