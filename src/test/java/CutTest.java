/** Promise 10: cut. */
public final class CutTest {
    public static void main(String[] args) {
        Due due = new Due();
        checkpointsAtEveryFourthPage(due);
        atItsBeginning(due);
        allCopiesCounted(due);
        itGoesOnFromThere(due);
        cutTwice(due);
        checkpointsAreItsOwnOutputs(due);
        onlyItsOwnWriter(due);
        aWaitingPurgeIsDone(due);
        aCutThatPurgesTakesNoPageBack(due);
        aCutBeforeThePurgeStillCounts(due);
        itIsIdle(due);
        thereIsNoneSuch(due);
        due.finish();
    }

    /**
     * Promise 10: "pages since its output's last checkpoint are printed again"; Terms: "at every fourth page that it
     * printed of the output (all copies counted) there is a CHECKPOINT".
     */
    private static void checkpointsAtEveryFourthPage(Due due) {
        for (int printed = 0; printed < 18; printed++) {
            SpoolRows x = new SpoolRows(16);
            Due.printing(x, 1, 9, 16);
            x.print(1, printed);
            due.is("cut(1) after " + printed + " pages", x.cut(1), printed / 4 * 4);
            due.is("pages printed after it", x.state(1, 3), printed / 4 * 4);
            due.is("copies left after it", x.state(1, 5), 9 - printed / 4 * 2);
            due.is("pages printed again", x.count(4), printed % 4);
            due.is("pages printed by all", x.count(3), printed);
            due.is("it is still printing", x.state(1, 0), 3);
            due.is("print the rest", x.print(1, 99), 18 - printed / 4 * 4);
            due.is("pages printed by all, all counted", x.count(3), 18 + printed % 4);
        }
    }

    /** Promise 10: "the page (from 0 on ..)"; Terms: "there is a CHECKPOINT, also at its beginning". */
    private static void atItsBeginning(Due due) {
        SpoolRows x = new SpoolRows(16);
        Due.printing(x, 1, 1, 32);
        due.is("cut(1) before any page", x.cut(1), 0);
        due.is("pages printed again", x.count(4), 0);
        due.is("it prints on", x.state(1, 0), 3);
        x.print(1, 3);
        due.is("cut(1) before the fourth page", x.cut(1), 0);
        due.is("pages printed again", x.count(4), 3);
        due.is("print all", x.print(1, 4), 4);
        due.is("it is printed", x.state(1, 0), 4);
    }

    /** Promise 10: "(from 0 on, all copies counted)": a checkpoint lies within a copy where four pages end there. */
    private static void allCopiesCounted(Due due) {
        SpoolRows x = new SpoolRows(16);
        Due.printing(x, 1, 3, 24);
        x.print(1, 3);
        due.is("copies left after the first", x.state(1, 5), 2);
        due.is("cut(1) at the end of a copy of 3", x.cut(1), 0);
        due.is("copies left after the cut", x.state(1, 5), 3);
        x.print(1, 5);
        due.is("cut(1) within the second copy", x.cut(1), 4);
        due.is("copies left after the cut", x.state(1, 5), 2);
        x.print(1, 4);
        due.is("cut(1) within the third copy", x.cut(1), 8);
        due.is("pages that are left", x.print(1, 9), 1);
        SpoolRows one = new SpoolRows(16);
        Due.printing(one, 1, 9, 1);
        one.print(1, 8);
        due.is("cut(1) of copies of one page", one.cut(1), 8);
        due.is("copies left", one.state(1, 5), 1);
    }

    /** Promise 10: "the page .. from which it goes on". */
    private static void itGoesOnFromThere(Due due) {
        SpoolRows x = new SpoolRows(16);
        Due.printing(x, 1, 1, 80);
        x.print(1, 6);
        due.is("cut(1) after 6 pages", x.cut(1), 4);
        x.print(1, 3);
        due.is("cut(1) after 7 pages", x.cut(1), 4);
        x.print(1, 4);
        due.is("cut(1) after 8 pages", x.cut(1), 8);
        due.is("pages printed again", x.count(4), 5);
        due.is("print the rest", x.print(1, 99), 2);
        due.is("it is printed", x.state(1, 0), 4);
    }

    /** Promise 10: "pages since its output's last checkpoint": a second cut at the checkpoint takes none. */
    private static void cutTwice(Due due) {
        for (int printed = 0; printed < 10; printed++) {
            SpoolRows x = new SpoolRows(16);
            Due.printing(x, 1, 1, 80);
            x.print(1, printed);
            x.cut(1);
            String before = Due.picture(x);
            due.is("cut(1) again after " + printed + " pages", x.cut(1), printed / 4 * 4);
            due.isStill("after a second cut", x, before);
        }
    }

    /** Promise 10: "its output's last checkpoint": pages of an output before do not count for the next. */
    private static void checkpointsAreItsOwnOutputs(Due due) {
        SpoolRows x = new SpoolRows(16);
        Due.printing(x, 1, 3, 1);
        Due.released(x, 2, 1, 40);
        x.print(1, 3);
        x.next(1);
        x.print(1, 3);
        due.is("cut(1) after 3 pages of the second", x.cut(1), 0);
        x.print(1, 4);
        due.is("cut(1) after 4 pages of the second", x.cut(1), 4);
        due.is("pages printed of the first", x.state(1, 3), 3);
    }

    /** Promise 10: "A writer is cut": others print on. */
    private static void onlyItsOwnWriter(Due due) {
        SpoolRows x = new SpoolRows(16);
        Due.printing(x, 1, 1, 48);
        Due.printing(x, 2, 1, 48);
        x.print(1, 3);
        x.print(2, 5);
        due.is("cut(2)", x.cut(2), 4);
        due.is("pages printed of 1", x.state(1, 3), 3);
        due.is("cut(1)", x.cut(1), 0);
        due.is("pages printed of 2", x.state(2, 3), 4);
        due.is("pages that both let be printed again", x.count(4), 4);
    }

    /** Promise 10: "an output whose purging waits is purged, the writer idle (the answer is that page, too)". */
    private static void aWaitingPurgeIsDone(Due due) {
        SpoolRows x = new SpoolRows(16);
        Due.printing(x, 1, 1, 80);
        x.print(1, 6);
        x.purge(1);
        due.is("free pages while it waits", x.count(0), 6);
        due.is("cut(1)", x.cut(1), 4);
        due.is("it is purged", x.state(1, 0), 5);
        due.is("free pages", x.count(0), 16);
        due.is("outputs that are not gone", x.count(1), 0);
        due.is("lines that are found", x.search(65), 0);
        due.is("the order", x.order(0), 0);
        due.is("the writer is idle", x.cut(1), -2);
        Due.released(x, 1, 1, 1);
        due.is("it takes the next", x.next(1), 2);
        due.is("whose purging does not wait", x.cut(1), 0);
        due.is("so that it prints on", x.state(2, 0), 3);
    }

    /** Promise 10: "pages .. are printed again": nothing of a purged output is, so its pages stay printed. */
    private static void aCutThatPurgesTakesNoPageBack(Due due) {
        for (int printed = 0; printed < 18; printed++) {
            SpoolRows x = new SpoolRows(16);
            Due.printing(x, 1, 9, 16);
            x.print(1, printed);
            x.purge(1);
            due.is("cut(1) that purges after " + printed + " pages", x.cut(1), printed / 4 * 4);
            due.is("it is purged", x.state(1, 0), 5);
            due.is("pages printed of it stay", x.state(1, 3), printed);
            due.is("copies left of it stay", x.state(1, 5), 9 - printed / 2);
            due.is("no page is printed again", x.count(4), 0);
            due.is("pages printed by all", x.count(3), printed);
        }
    }

    /** Promise 10: "pages since its output's last checkpoint are printed again", of the cuts before one that purges. */
    private static void aCutBeforeThePurgeStillCounts(Due due) {
        SpoolRows x = new SpoolRows(16);
        Due.printing(x, 1, 1, 80);
        x.print(1, 7);
        x.cut(1);
        x.print(1, 1);
        x.purge(1);
        x.print(1, 1);
        due.is("cut(1) that purges", x.cut(1), 4);
        due.is("pages printed of it", x.state(1, 3), 6);
        due.is("pages of the first cut alone", x.count(4), 3);
        due.is("pages printed by all", x.count(3), 9);
    }

    /** Promise 10: "-2 when it is idle". */
    private static void itIsIdle(Due due) {
        SpoolRows x = new SpoolRows(16);
        x.writer(8);
        due.is("a new one", x.cut(1), -2);
        Due.released(x, 1, 1, 1);
        due.is("one that could take an output", x.cut(1), -2);
        x.next(1);
        x.print(1, 1);
        String before = Due.picture(x);
        due.is("one whose output is printed", x.cut(1), -2);
        due.isStill("after a refused cut", x, before);
        Due.released(x, 1, 1, 1);
        x.next(1);
        x.purge(2);
        x.cut(1);
        due.is("one whose output is purged", x.cut(1), -2);
    }

    /** Promise 10: "NONE when there is none such". */
    private static void thereIsNoneSuch(Due due) {
        due.is("cut(1) where there is no writer at all", new SpoolRows(16).cut(1), SpoolRows.NONE);
        SpoolRows x = new SpoolRows(16);
        Due.printing(x, 1, 1, 17);
        x.print(1, 2);
        String before = Due.picture(x);
        for (int writer : Due.numbersOfNone(1)) {
            due.is("cut(" + writer + ")", x.cut(writer), SpoolRows.NONE);
        }
        due.isStill("after cuts of none", x, before);
    }
}
