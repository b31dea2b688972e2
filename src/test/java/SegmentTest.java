/** Promise 6: segment. */
public final class SegmentTest {
    public static void main(String[] args) {
        Due due = new Due();
        itIsReleasedAsItIs(due);
        theNewOneIsOpenWithoutLines(due);
        ofTheSameJobAndCopies(due);
        ofTheSameClassDestinationAndPriority(due);
        ofTheSameLimit(due);
        heldOrNot(due);
        whereNoPageIsFree(due);
        itIsNotOpen(due);
        itHasNoLines(due);
        thereIsNoneSuch(due);
        thereAreThousand(due);
        due.finish();
    }

    /** Promise 6: "An open output is released as it is"; Terms: "RELEASED (2) when its job ends or its segment is". */
    private static void itIsReleasedAsItIs(Due due) {
        SpoolRows x = new SpoolRows(16);
        Due.open(x, 7, 2, 9);
        due.is("segment(1)", x.segment(1), 2);
        int[] want = {2, 9, 2, 0, 7, 2};
        for (int what = 0; what < want.length; what++) {
            due.is("state(1, " + what + ") after it", x.state(1, what), want[what]);
        }
        due.is("its pages stay taken", x.count(0), 14);
        due.is("its lines are found", x.search(65), 9);
        due.is("a writer takes it", x.next(x.writer(8)), 1);
    }

    /** Promise 6: "goes on as a new one .. (open, without lines): its number". */
    private static void theNewOneIsOpenWithoutLines(Due due) {
        SpoolRows x = new SpoolRows(16);
        Due.open(x, 7, 2, 9);
        Due.open(x, 8, 1, 1);
        due.is("segment(1), the number after the last", x.segment(1), 3);
        int[] want = {1, 0, 0, 0, 7, 2};
        for (int what = 0; what < want.length; what++) {
            due.is("state(3, " + what + ") of the new one", x.state(3, what), want[what]);
        }
        due.is("outputs that are not gone", x.count(1), 3);
        due.is("a line of the new one", x.line(3, Due.A_LINE), 1);
        due.is("its pages", x.state(3, 2), 1);
        due.is("a segment of the new one", x.segment(3), 4);
    }

    /** Promise 6: "a new one of the same job, class, copies", at their bounds. */
    private static void ofTheSameJobAndCopies(Due due) {
        SpoolRows x = new SpoolRows(16);
        Due.open(x, 9999, 9, 1);
        Due.open(x, 1, 1, 1);
        due.is("segment(1)", x.segment(1), 3);
        due.is("segment(2)", x.segment(2), 4);
        due.is("its job", x.state(3, 4), 9999);
        due.is("its copies", x.state(3, 5), 9);
        due.is("the other's job", x.state(4, 4), 1);
        due.is("the other's copies", x.state(4, 5), 1);
        Due.lines(x, 3, 1);
        due.is("its job's end", x.end(9999), 1);
        due.is("it is released", x.state(3, 0), 2);
    }

    /** Promise 6: "of the same job, class, copies, destination, priority". */
    private static void ofTheSameClassDestinationAndPriority(Due due) {
        for (int kind = 0; kind <= 7; kind++) {
            SpoolRows x = new SpoolRows(16);
            int to = 8 * (7 - kind) + (kind + 3) % 8;
            x.output(7, kind, 2);
            x.route(1, to);
            Due.lines(x, 1, 1);
            x.segment(1);
            x.purge(1);
            Due.lines(x, 2, 1);
            x.end(7);
            due.is("another class", x.next(x.writer((kind + 1) % 8)), 0);
            due.is("another destination", x.next(x.writer(8 + 16 * ((kind + 4) % 8 + 1))), 0);
            due.is("its priority and destination", x.route(2, to), to);
            due.is("its class and destination", x.next(x.writer(kind + 16 * ((kind + 3) % 8 + 1))), 2);
        }
    }

    /** Promise 6: "of the same .. limit", counted by its own lines. */
    private static void ofTheSameLimit(Due due) {
        for (int ends = 0; ends <= 1; ends++) {
            SpoolRows x = new SpoolRows(16);
            Due.open(x, 1, 1, 3);
            x.limit(1, 2, ends == 1);
            x.segment(1);
            due.is("line 1 of 2", x.line(2, Due.A_LINE), 1);
            due.is("line 2 of 2", x.line(2, Due.A_LINE), 1);
            due.is("line 3 of 2", x.line(2, Due.A_LINE), ends == 1 ? 0 : 2);
        }
        SpoolRows x = new SpoolRows(16);
        Due.open(x, 1, 1, 3);
        x.segment(1);
        x.limit(1, 1, true);
        Due.lines(x, 2, 1);
        due.is("a later limit is the old one's alone", x.line(2, Due.A_LINE), 1);
    }

    /** Promise 6: "and held or not". */
    private static void heldOrNot(Due due) {
        SpoolRows x = new SpoolRows(16);
        Due.open(x, 1, 1, 1);
        x.hold(1, true);
        x.segment(1);
        due.is("the old one is held and released", x.state(1, 0), 8);
        due.is("the new one is held and open", x.state(2, 0), 7);
        x.hold(2, false);
        due.is("the old one is held by itself", x.state(1, 0), 8);
        due.is("the new one is not held", x.state(2, 0), 1);
        Due.lines(x, 2, 1);
        x.segment(2);
        due.is("one that was not held", x.state(2, 0), 2);
        due.is("goes on not held", x.state(3, 0), 1);
    }

    /** Promise 6: 0 only "when there are 1000": it needs no page, and its job has an output that is there. */
    private static void whereNoPageIsFree(Due due) {
        SpoolRows x = new SpoolRows(1);
        Due.open(x, 1, 1, 8);
        due.is("segment(1) with no page free", x.segment(1), 2);
        due.is("a line of the new one", x.line(2, Due.A_LINE), -3);
    }

    /** Promise 6: "-2 when it is not open". */
    private static void itIsNotOpen(Due due) {
        SpoolRows x = Due.oneOfEachState();
        String before = Due.picture(x);
        due.is("a released one", x.segment(2), -2);
        due.is("a printing one", x.segment(3), -2);
        due.is("a printed one", x.segment(4), -2);
        due.is("a purged one", x.segment(5), -2);
        due.isStill("after refused segments", x, before);
        due.is("an open one", x.segment(1), 6);
        due.is("the same, which is released now", x.segment(1), -2);
    }

    /** Promise 6: "-2 when it .. has no lines". */
    private static void itHasNoLines(Due due) {
        SpoolRows x = new SpoolRows(16);
        x.output(1, 0, 1);
        due.is("one without lines", x.segment(1), -2);
        due.is("it stays open", x.state(1, 0), 1);
        due.is("no new one came", x.count(1), 1);
        x.line(1, 0);
        due.is("one with a line of length 0", x.segment(1), 2);
        due.is("the new one, without lines", x.segment(2), -2);
    }

    /** Promise 6: "NONE when there is none such". */
    private static void thereIsNoneSuch(Due due) {
        due.is("segment(1) where there is none at all", new SpoolRows(16).segment(1), SpoolRows.NONE);
        SpoolRows x = new SpoolRows(16);
        Due.open(x, 1, 1, 1);
        String before = Due.picture(x);
        for (int output : Due.numbersOfNone(1)) {
            due.is("segment(" + output + ")", x.segment(output), SpoolRows.NONE);
        }
        due.isStill("after segments of none", x, before);
    }

    /** Promise 6: "0 when there are 1000"; no 512 calls can make so many. */
    private static void thereAreThousand(Due due) {
        SpoolRows x = new SpoolRows(8);
        for (int i = 1; i <= 999; i++) {
            x.output(1, 0, 1);
        }
        Due.lines(x, 1, 1);
        Due.lines(x, 999, 1);
        due.is("the segment that is the 1000th", x.segment(1), 1000);
        due.is("the segment after 1000", x.segment(999), 0);
        due.is("the refused one stays open", x.state(999, 0), 1);
        due.is("one more", x.state(1001, 0), SpoolRows.NONE);
    }
}
