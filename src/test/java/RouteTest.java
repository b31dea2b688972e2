/** Promise 13: route. */
public final class RouteTest {
    public static void main(String[] args) {
        Due due = new Due();
        everyRouteThatIsSo(due);
        routesThatAreNotSo(due);
        theDestinationIsTheRest(due);
        thePriorityIsTheEighth(due);
        openReleasedAndHeldOnes(due);
        onlyItself(due);
        others(due);
        thereIsNoneSuch(due);
        due.finish();
    }

    /**
     * Promise 13: "8 * the priority + the destination that it had"; Terms: "a destination 0 .. 7 and a priority
     * 0 .. 7 (both 0 at first)".
     */
    private static void everyRouteThatIsSo(Due due) {
        SpoolRows x = new SpoolRows(16);
        x.output(1, 0, 1);
        int before = 0;
        for (int to = 0; to < 64; to++) {
            due.is("route(1, " + to + ")", x.route(1, to), before);
            before = to;
        }
        due.is("route(1, 63) again", x.route(1, 63), 63);
        due.is("route(1, 0)", x.route(1, 0), 63);
        due.is("route(1, 0) again", x.route(1, 0), 0);
    }

    /** Promise 13: "NONE when .. to is not 0 .. 63": the route stays as it was. */
    private static void routesThatAreNotSo(Due due) {
        SpoolRows x = new SpoolRows(16);
        x.output(1, 0, 1);
        x.route(1, 37);
        int[] wrong = {-1, -8, -64, 64, 65, 72, 256, 65536, Integer.MIN_VALUE, Integer.MAX_VALUE};
        for (int to : wrong) {
            due.is("route(1, " + to + ")", x.route(1, to), SpoolRows.NONE);
        }
        due.is("the route after them", x.route(1, 0), 37);
        x.purge(1);
        due.is("a gone one to 64", x.route(1, 64), SpoolRows.NONE);
    }

    /** Promise 13: "a destination (to modulo 8)", 0 .. 7 under every priority. */
    private static void theDestinationIsTheRest(Due due) {
        for (int to = 0; to < 64; to++) {
            SpoolRows x = new SpoolRows(16);
            Due.released(x, 1, 1, 1);
            x.route(1, to);
            due.is("a writer of another than " + to, x.next(x.writer(8 + 16 * ((to + 1) % 8 + 1))), 0);
            due.is("a writer of the destination of " + to, x.next(x.writer(8 + 16 * (to % 8 + 1))), 1);
        }
    }

    /** Promise 13: "a priority (to / 8)": a greater one goes first, a greater destination does not. */
    private static void thePriorityIsTheEighth(Due due) {
        for (int to = 0; to < 64; to++) {
            SpoolRows x = new SpoolRows(16);
            Due.released(x, 1, 1, 1);
            Due.released(x, 2, 1, 1);
            x.route(1, 8 * 4 + 3);
            x.route(2, to);
            due.is("the first with " + to + " against 35", x.next(x.writer(8)), to / 8 > 4 ? 2 : 1);
        }
    }

    /** Promise 13: "An open or released output gets a destination .. and a priority", a held one, too. */
    private static void openReleasedAndHeldOnes(Due due) {
        SpoolRows x = new SpoolRows(16);
        x.output(1, 0, 1);
        due.is("an open one without lines", x.route(1, 9), 0);
        Due.lines(x, 1, 1);
        x.hold(1, true);
        due.is("an open and held one", x.route(1, 10), 9);
        x.end(1);
        due.is("a released and held one", x.route(1, 11), 10);
        x.hold(1, false);
        due.is("a released one", x.route(1, 12), 11);
        due.is("its state", x.state(1, 0), 2);
    }

    /** Promise 13: "An .. output gets a destination": no other. */
    private static void onlyItself(Due due) {
        SpoolRows x = new SpoolRows(16);
        x.output(1, 0, 1);
        x.output(1, 0, 1);
        x.route(2, 63);
        due.is("another of the job", x.route(1, 0), 0);
    }

    /** Promise 13: "-2 for others". */
    private static void others(Due due) {
        SpoolRows x = Due.oneOfEachState();
        String before = Due.picture(x);
        for (int output = 3; output <= 5; output++) {
            due.is("route(" + output + ", 0)", x.route(output, 0), -2);
            due.is("route(" + output + ", 63)", x.route(output, 63), -2);
        }
        due.isStill("after routes of others", x, before);
    }

    /** Promise 13: "NONE when there is none such". */
    private static void thereIsNoneSuch(Due due) {
        due.is("route(1, 0) where there is none at all", new SpoolRows(16).route(1, 0), SpoolRows.NONE);
        SpoolRows x = new SpoolRows(16);
        Due.open(x, 1, 1, 1);
        for (int output : Due.numbersOfNone(1)) {
            due.is("route(" + output + ", 1)", x.route(output, 1), SpoolRows.NONE);
        }
        due.is("the one that is there", x.route(1, 0), 0);
    }
}
