/** Promise 12: hold. */
public final class HoldTest {
    public static void main(String[] args) {
        Due due = new Due();
        anOpenOne(due);
        aReleasedOne(due);
        asItAlreadyIs(due);
        onlyItself(due);
        others(due);
        thereIsNoneSuch(due);
        due.finish();
    }

    /** Promise 12: "An open or released output is held, or not: 1 when it was, else 0", an open one. */
    private static void anOpenOne(Due due) {
        SpoolRows x = new SpoolRows(16);
        x.output(1, 0, 1);
        due.is("hold an open one", x.hold(1, true), 0);
        due.is("its state", x.state(1, 0), 7);
        due.is("hold it not", x.hold(1, false), 1);
        due.is("its state", x.state(1, 0), 1);
        due.is("hold it again", x.hold(1, true), 0);
    }

    /** Promise 12: "An open or released output is held, or not: 1 when it was, else 0", a released one. */
    private static void aReleasedOne(Due due) {
        SpoolRows x = new SpoolRows(16);
        Due.released(x, 1, 1, 1);
        due.is("hold a released one", x.hold(1, true), 0);
        due.is("its state", x.state(1, 0), 8);
        due.is("a held one is not gone", x.count(1), 1);
        due.is("its lines are found", x.search(65), 1);
        due.is("its page stays taken", x.count(0), 15);
        due.is("hold it not", x.hold(1, false), 1);
        due.is("its state", x.state(1, 0), 2);
    }

    /** Promise 12: "1 when it was, else 0": what it was before, also when nothing changes. */
    private static void asItAlreadyIs(Due due) {
        SpoolRows x = new SpoolRows(16);
        Due.open(x, 1, 1, 1);
        due.is("not held, not", x.hold(1, false), 0);
        due.is("its state", x.state(1, 0), 1);
        x.hold(1, true);
        due.is("held, again", x.hold(1, true), 1);
        due.is("its state", x.state(1, 0), 7);
        x.end(1);
        due.is("held before it was released", x.hold(1, true), 1);
        due.is("its state", x.state(1, 0), 8);
    }

    /** Promise 12: "An .. output is held": no other. */
    private static void onlyItself(Due due) {
        SpoolRows x = new SpoolRows(16);
        Due.open(x, 1, 1, 1);
        Due.open(x, 1, 1, 1);
        x.hold(2, true);
        due.is("another", x.state(1, 0), 1);
        due.is("itself", x.state(2, 0), 7);
    }

    /** Promise 12: "-2 for others", which stay as they are. */
    private static void others(Due due) {
        SpoolRows x = Due.oneOfEachState();
        String before = Due.picture(x);
        for (int output = 3; output <= 5; output++) {
            due.is("hold(" + output + ", true)", x.hold(output, true), -2);
            due.is("hold(" + output + ", false)", x.hold(output, false), -2);
        }
        due.isStill("after holds of others", x, before);
    }

    /** Promise 12: "NONE when there is none such". */
    private static void thereIsNoneSuch(Due due) {
        due.is("hold(1, true) where there is none at all", new SpoolRows(16).hold(1, true), SpoolRows.NONE);
        SpoolRows x = new SpoolRows(16);
        Due.open(x, 1, 1, 1);
        for (int output : Due.numbersOfNone(1)) {
            due.is("hold(" + output + ", true)", x.hold(output, true), SpoolRows.NONE);
            due.is("hold(" + output + ", false)", x.hold(output, false), SpoolRows.NONE);
        }
        due.is("the one that is there", x.state(1, 0), 1);
    }
}
