/** Promise 13. */
public final class RouteTest {
    public static void main(String[] args) {
        Due due = new Due();
        theOldRouteIsAnswered(due);
        theNewRouteIsFollowed(due);
        others(due);
        due.finish();
    }

    private static void theOldRouteIsAnswered(Due due) {
        SpoolRows x = new SpoolRows(16);
        x.output(1, 0, 1);
        int before = 0;
        for (int to = 0; to < 64; to++) {
            due.is("route(1, " + to + ")", x.route(1, to), before);
            before = to;
        }
        x.hold(1, true);
        due.is("route a held one", x.route(1, 9), 63);
        Due.lines(x, 1, 1);
        x.end(1);
        due.is("route a released one", x.route(1, 0), 9);
    }

    private static void theNewRouteIsFollowed(Due due) {
        SpoolRows x = new SpoolRows(16);
        Due.released(x, 1, 1, 1);
        Due.released(x, 2, 1, 1);
        x.route(2, 8 * 1 + 6);
        x.writer(8 + 16 * 3);
        x.writer(8 + 16 * 7);
        x.writer(8);
        due.is("a writer of destination 2", x.next(1), 0);
        due.is("a writer of destination 6", x.next(2), 2);
        x.print(2, 1);
        Due.released(x, 3, 1, 1);
        x.route(3, 8);
        due.is("a greater priority goes first", x.next(3), 3);
    }

    private static void others(Due due) {
        SpoolRows x = new SpoolRows(16);
        Due.printing(x, 1, 1, 1);
        due.is("a printing one", x.route(1, 1), -2);
        x.print(1, 1);
        due.is("a printed one", x.route(1, 1), -2);
        x.output(1, 0, 1);
        x.route(2, 5);
        int[] wrong = {-1, 64, Integer.MIN_VALUE, Integer.MAX_VALUE};
        for (int to : wrong) {
            due.is("route(2, " + to + ")", x.route(2, to), SpoolRows.NONE);
        }
        due.is("the route after wrong ones", x.route(2, 5), 5);
        x.purge(2);
        due.is("a purged one", x.route(2, 1), -2);
        due.is("a purged one, wrong", x.route(2, 64), SpoolRows.NONE);
        int[] outputs = {0, -1, 3, Integer.MIN_VALUE, Integer.MAX_VALUE};
        for (int output : outputs) {
            due.is("route(" + output + ", 1)", x.route(output, 1), SpoolRows.NONE);
        }
    }
}
