/** Promise 11: purge. */
public final class PurgeTest {
    public static void main(String[] args) {
        Due due = new Due();
        openAndReleasedOnesGo(due);
        onesWithoutLinesGo(due);
        heldOnesGoAndAreNotHeld(due);
        aPrintingOneWaits(due);
        askedTwiceItWaitsOnce(due);
        itIsPurgedWhenItsWriterIsCut(due);
        whenAllIsPrintedItIsGoneAsPrinted(due);
        itIsGone(due);
        thereIsNoneSuch(due);
        due.finish();
    }

    /** Promise 11: "An output is purged: 1"; Terms: its pages are free again, it is gone. */
    private static void openAndReleasedOnesGo(Due due) {
        SpoolRows x = new SpoolRows(16);
        Due.released(x, 1, 1, 9);
        Due.open(x, 2, 1, 17);
        due.is("free pages", x.count(0), 11);
        due.is("a released one", x.purge(1), 1);
        due.is("it is purged", x.state(1, 0), 5);
        due.is("free pages", x.count(0), 13);
        due.is("lines that are found", x.search(65), 17);
        due.is("an open one", x.purge(2), 1);
        due.is("it is purged", x.state(2, 0), 5);
        due.is("free pages", x.count(0), 16);
        due.is("outputs that are not gone", x.count(1), 0);
        due.is("lines that are found", x.search(65), 0);
        due.is("the order", x.order(0), 0);
    }

    /** Promise 11: "An output is purged: 1", one without lines, too: it has no page that could be free again. */
    private static void onesWithoutLinesGo(Due due) {
        SpoolRows x = new SpoolRows(16);
        x.output(1, 0, 1);
        due.is("one without lines", x.purge(1), 1);
        due.is("it is purged", x.state(1, 0), 5);
        due.is("free pages", x.count(0), 16);
    }

    /** Promise 11: "An output is purged: 1"; Terms: "both are gone (and not held)". */
    private static void heldOnesGoAndAreNotHeld(Due due) {
        SpoolRows x = new SpoolRows(16);
        Due.released(x, 1, 1, 1);
        Due.open(x, 2, 1, 1);
        x.hold(1, true);
        x.hold(2, true);
        due.is("a released and held one", x.purge(1), 1);
        due.is("it is gone and not held", x.state(1, 0), 5);
        due.is("an open and held one", x.purge(2), 1);
        due.is("it is gone and not held", x.state(2, 0), 5);
    }

    /** Promise 11: "0 when it is printing: it waits": nothing is seen of it yet. */
    private static void aPrintingOneWaits(Due due) {
        SpoolRows x = new SpoolRows(16);
        Due.printing(x, 1, 1, 17);
        String before = Due.picture(x);
        due.is("before its first page", x.purge(1), 0);
        due.isStill("while a purging waits", x, before);
        due.is("it prints on", x.print(1, 1), 1);
        due.is("its state", x.state(1, 0), 3);
        due.is("the writer is not idle", x.next(1), -2);
        due.is("another output is purged at once", x.purge(Due.open(x, 1, 1, 1)), 1);
    }

    /** Promise 11: "0 when it is printing", each time that it is asked. */
    private static void askedTwiceItWaitsOnce(Due due) {
        SpoolRows x = new SpoolRows(16);
        Due.printing(x, 1, 1, 17);
        due.is("purge(1)", x.purge(1), 0);
        due.is("purge(1) again", x.purge(1), 0);
        x.cut(1);
        due.is("free pages", x.count(0), 16);
        due.is("purge(1) when it is gone", x.purge(1), -2);
        due.is("free pages", x.count(0), 16);
    }

    /** Promise 11: "and is purged when its writer is cut": its own writer. */
    private static void itIsPurgedWhenItsWriterIsCut(Due due) {
        SpoolRows x = new SpoolRows(16);
        Due.printing(x, 1, 1, 17);
        Due.printing(x, 2, 1, 17);
        x.purge(1);
        x.cut(2);
        due.is("when another writer is cut", x.state(1, 0), 3);
        due.is("the other prints on", x.state(2, 0), 3);
        x.cut(1);
        due.is("when its writer is cut", x.state(1, 0), 5);
        due.is("the other prints on", x.state(2, 0), 3);
        due.is("free pages", x.count(0), 13);
    }

    /** Promise 11: "(when all is printed it is gone as printed)". */
    private static void whenAllIsPrintedItIsGoneAsPrinted(Due due) {
        SpoolRows x = new SpoolRows(16);
        Due.printing(x, 1, 2, 16);
        x.print(1, 3);
        x.purge(1);
        due.is("print(1, 1), the last page", x.print(1, 1), 1);
        due.is("it is gone as printed", x.state(1, 0), 4);
        due.is("the order", x.order(0), 1);
        due.is("free pages", x.count(0), 16);
        due.is("the writer is idle", x.cut(1), -2);
        due.is("it stays printed", x.state(1, 0), 4);
        due.is("purge of it", x.purge(1), -2);
    }

    /** Promise 11: "-2 when it is gone". */
    private static void itIsGone(Due due) {
        SpoolRows x = Due.oneOfEachState();
        String before = Due.picture(x);
        due.is("a printed one", x.purge(4), -2);
        due.is("a purged one", x.purge(5), -2);
        due.is("a purged one again", x.purge(5), -2);
        due.isStill("after purges of gone ones", x, before);
        SpoolRows y = new SpoolRows(16);
        Due.released(y, 1, 1, 0);
        due.is("one whose job ended without lines", y.purge(1), -2);
    }

    /** Promise 11: "NONE when there is none such". */
    private static void thereIsNoneSuch(Due due) {
        due.is("purge(1) where there is none at all", new SpoolRows(16).purge(1), SpoolRows.NONE);
        SpoolRows x = new SpoolRows(16);
        Due.open(x, 1, 1, 1);
        String before = Due.picture(x);
        for (int output : Due.numbersOfNone(1)) {
            due.is("purge(" + output + ")", x.purge(output), SpoolRows.NONE);
        }
        due.isStill("after purges of none", x, before);
    }
}
