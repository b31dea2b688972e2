/** Promise 6. */
public final class SegmentTest {
    public static void main(String[] args) {
        Due due = new Due();
        theNewOneIsLikeTheOld(due);
        aHeldOneGoesOnHeld(due);
        reservedPagesDoNotMatter(due);
        onlyOpenOnesWithLines(due);
        wrongInputsAreNone(due);
        due.finish();
    }

    private static void theNewOneIsLikeTheOld(Due due) {
        SpoolRows x = new SpoolRows(16);
        x.output(7, 3, 2);
        x.route(1, 8 * 5 + 4);
        x.limit(1, 3, true);
        Due.lines(x, 1, 3);
        due.is("segment(1)", x.segment(1), 2);
        due.is("the old one is released", x.state(1, 0), 2);
        due.is("its lines", x.state(1, 1), 3);
        due.is("the new one is open", x.state(2, 0), 1);
        due.is("its lines", x.state(2, 1), 0);
        due.is("its pages", x.state(2, 2), 0);
        due.is("its job", x.state(2, 4), 7);
        due.is("its copies", x.state(2, 5), 2);
        due.is("free pages", x.count(0), 15);
        Due.lines(x, 2, 3);
        due.is("its limit", x.line(2, Due.A_LINE), 0);
        due.is("its priority and destination", x.route(2, 8 * 5 + 4), 44);
        due.is("its job's end", x.end(7), 1);
        x.purge(1);
        due.is("its class and destination, another class", x.next(x.writer(2 + 16 * 5)), 0);
        due.is("its class and destination", x.next(x.writer(3 + 16 * 5)), 2);
    }

    private static void aHeldOneGoesOnHeld(Due due) {
        SpoolRows x = new SpoolRows(16);
        Due.open(x, 1, 1, 1);
        x.limit(1, 1, false);
        x.hold(1, true);
        due.is("segment(1) of a held one", x.segment(1), 2);
        due.is("the old one is held and released", x.state(1, 0), 8);
        due.is("the new one is held and open", x.state(2, 0), 7);
        x.hold(2, false);
        due.is("the old one is held by itself", x.state(1, 0), 8);
        Due.lines(x, 2, 1);
        due.is("the new one's limit warns", x.line(2, Due.A_LINE), 2);
    }

    private static void reservedPagesDoNotMatter(Due due) {
        SpoolRows x = new SpoolRows(1);
        Due.open(x, 1, 1, 8);
        due.is("segment(1) with no page free", x.segment(1), 2);
        due.is("line(2, ..) with no page free", x.line(2, Due.A_LINE), -3);
    }

    private static void onlyOpenOnesWithLines(Due due) {
        SpoolRows x = new SpoolRows(16);
        x.output(1, 0, 1);
        due.is("one without lines", x.segment(1), -2);
        due.is("it stays open", x.state(1, 0), 1);
        x.line(1, 0);
        due.is("one with a line of length 0", x.segment(1), 2);
        due.is("a released one", x.segment(1), -2);
        x.next(x.writer(8));
        due.is("a printing one", x.segment(1), -2);
        x.print(1, 1);
        due.is("a printed one", x.segment(1), -2);
        Due.lines(x, 2, 1);
        x.purge(2);
        due.is("a purged one", x.segment(2), -2);
        due.is("no more outputs came", x.state(3, 0), SpoolRows.NONE);
    }

    private static void wrongInputsAreNone(Due due) {
        SpoolRows x = new SpoolRows(16);
        Due.open(x, 1, 1, 1);
        int[] outputs = {0, -1, 2, Integer.MIN_VALUE, Integer.MAX_VALUE};
        for (int output : outputs) {
            due.is("segment(" + output + ")", x.segment(output), SpoolRows.NONE);
        }
    }
}
