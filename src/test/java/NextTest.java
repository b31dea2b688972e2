/** Promise 8: next. */
public final class NextTest {
    public static void main(String[] args) {
        Due due = new Due();
        greaterPrioritiesFirst(due);
        thenLesserJobs(due);
        thenLesserNumbers(due);
        allThreeTogether(due);
        thereIsNone(due);
        onlyReleasedOnes(due);
        heldOnesAreNotTaken(due);
        onesWithoutLinesAreNotTaken(due);
        classesMustSuit(due);
        destinationsMustSuit(due);
        classAndDestinationMustSuitBoth(due);
        theFirstOfThoseThatSuit(due);
        itIsNotIdle(due);
        itIsIdleAgain(due);
        thereIsNoneSuch(due);
        due.finish();
    }

    /** Two outputs of one line with these jobs and priorities: the one that a writer takes first. */
    private static int firstOf(int job1, int priority1, int job2, int priority2) {
        SpoolRows x = new SpoolRows(16);
        x.route(Due.released(x, job1, 1, 1), 8 * priority1);
        x.route(Due.released(x, job2, 1, 1), 8 * priority2);
        return x.next(x.writer(8));
    }

    /** Promise 8: "takes an output"; Terms: "greater priorities first". */
    private static void greaterPrioritiesFirst(Due due) {
        due.is("priorities 0 and 1", firstOf(1, 0, 2, 1), 2);
        due.is("priorities 1 and 0", firstOf(2, 1, 1, 0), 1);
        due.is("priorities 6 and 7, the greatest", firstOf(1, 6, 9999, 7), 2);
        due.is("priorities 7 and 0", firstOf(9999, 7, 1, 0), 1);
    }

    /** Promise 8: "takes an output"; Terms: "then lesser jobs". */
    private static void thenLesserJobs(Due due) {
        due.is("jobs 1 and 2", firstOf(1, 0, 2, 0), 1);
        due.is("jobs 2 and 1", firstOf(2, 0, 1, 0), 2);
        due.is("jobs 9999 and 9998", firstOf(9999, 7, 9998, 7), 2);
        due.is("jobs 9999 and 1", firstOf(9999, 3, 1, 3), 2);
        due.is("jobs 256 and 1", firstOf(256, 0, 1, 0), 2);
    }

    /** Promise 8: "takes an output"; Terms: "then lesser numbers". */
    private static void thenLesserNumbers(Due due) {
        due.is("one job, one priority", firstOf(5, 2, 5, 2), 1);
        SpoolRows x = new SpoolRows(16);
        for (int i = 1; i <= 12; i++) {
            Due.open(x, 5, 1, 1);
        }
        x.end(5);
        x.writer(8);
        for (int i = 1; i <= 12; i++) {
            due.is("next number " + i, x.next(1), i);
            x.print(1, 1);
        }
    }

    /** Promise 8: "its number"; Terms: "greater priorities first, then lesser jobs, then lesser numbers". */
    private static void allThreeTogether(Due due) {
        SpoolRows x = new SpoolRows(16);
        int[] jobs = {9, 5, 5, 7, 8, 9, 6};
        int[] priorities = {0, 0, 0, 3, 2, 3, 0};
        for (int i = 0; i < jobs.length; i++) {
            int output = Due.open(x, jobs[i], 1, 1);
            x.route(output, 8 * priorities[i] + i);
        }
        for (int job = 5; job <= 9; job++) {
            x.end(job);
        }
        x.writer(8);
        int[] want = {4, 6, 5, 2, 3, 7, 1};
        for (int number : want) {
            due.is("the next in order", x.next(1), number);
            due.is("it is printing", x.state(number, 0), 3);
            x.print(1, 1);
        }
        due.is("when all are printed", x.next(1), 0);
    }

    /** Promise 8: "0 when there is none": the writer stays idle. */
    private static void thereIsNone(Due due) {
        SpoolRows x = new SpoolRows(16);
        x.writer(8);
        due.is("where there is none at all", x.next(1), 0);
        due.is("the writer stays idle", x.print(1, 1), -2);
        due.is("and is asked again", x.next(1), 0);
        Due.released(x, 1, 1, 1);
        due.is("until there is one", x.next(1), 1);
        x.writer(8);
        due.is("one that another writer has", x.next(2), 0);
    }

    /** Promise 8: "0 when there is none"; Terms: "the first output in order that is released". */
    private static void onlyReleasedOnes(Due due) {
        SpoolRows x = Due.oneOfEachState();
        x.writer(8);
        due.is("of one of each state", x.next(2), 2);
        x.print(2, 2);
        String before = Due.picture(x);
        due.is("of open, printing, printed and purged ones", x.next(2), 0);
        due.isStill("after a next of none", x, before);
    }

    /** Promise 8: "0 when there is none"; Terms: "released, not held". */
    private static void heldOnesAreNotTaken(Due due) {
        SpoolRows x = new SpoolRows(16);
        Due.released(x, 1, 1, 1);
        Due.released(x, 2, 1, 1);
        x.hold(1, true);
        x.writer(8);
        due.is("the one that is not held", x.next(1), 2);
        x.print(1, 1);
        due.is("the held one alone", x.next(1), 0);
        x.hold(1, false);
        due.is("one that is not held any more", x.next(1), 1);
    }

    /** Promise 8: "0 when there is none"; Terms: "has at least one line". */
    private static void onesWithoutLinesAreNotTaken(Due due) {
        SpoolRows x = new SpoolRows(16);
        Due.released(x, 1, 1, 0);
        x.writer(8);
        due.is("one without lines", x.next(1), 0);
        x.output(1, 0, 1);
        x.line(2, 0);
        x.end(1);
        due.is("one with a line of length 0", x.next(1), 2);
    }

    /** Promise 8: "takes an output"; Terms: "a class 0 .. 7, or 8 any". */
    private static void classesMustSuit(Due due) {
        for (int kind = 0; kind < 8; kind++) {
            for (int wanted = 0; wanted <= 8; wanted++) {
                SpoolRows x = new SpoolRows(16);
                x.output(1, kind, 1);
                Due.lines(x, 1, 1);
                x.end(1);
                x.writer(wanted);
                due.is("class " + kind + " for criteria " + wanted, x.next(1), wanted == 8 || wanted == kind ? 1 : 0);
            }
        }
    }

    /** Promise 8: "takes an output"; Terms: "16 times one more than a destination, or 0 any". */
    private static void destinationsMustSuit(Due due) {
        for (int destination = 0; destination < 8; destination++) {
            for (int wanted = 0; wanted <= 8; wanted++) {
                SpoolRows x = new SpoolRows(16);
                Due.released(x, 1, 1, 1);
                x.route(1, destination);
                x.writer(16 * wanted + 8);
                due.is("destination " + destination + " for criteria " + (16 * wanted + 8), x.next(1),
                        wanted == 0 || wanted == destination + 1 ? 1 : 0);
            }
        }
    }

    /** Promise 8: "takes an output"; Terms: "and is as its criteria say": by class and by destination. */
    private static void classAndDestinationMustSuitBoth(Due due) {
        int[] criteria = {3 + 16 * 6, 2 + 16 * 6, 3 + 16 * 5, 3, 16 * 6 + 8, 2, 8 + 16 * 5, 8};
        int[] want = {1, 0, 0, 1, 1, 0, 0, 1};
        for (int i = 0; i < criteria.length; i++) {
            SpoolRows x = new SpoolRows(16);
            x.output(1, 3, 1);
            x.route(1, 8 * 7 + 5);
            Due.lines(x, 1, 1);
            x.end(1);
            due.is("class 3, destination 5 for criteria " + criteria[i], x.next(x.writer(criteria[i])), want[i]);
        }
    }

    /** Promise 8: "takes an output"; Terms: "the first output in order that .. is as its criteria say". */
    private static void theFirstOfThoseThatSuit(Due due) {
        SpoolRows x = new SpoolRows(16);
        int[] classes = {0, 1, 1, 0};
        int[] priorities = {0, 5, 6, 7};
        for (int i = 0; i < classes.length; i++) {
            int output = x.output(i + 1, classes[i], 1);
            x.route(output, 8 * priorities[i]);
            Due.lines(x, output, 1);
            x.end(i + 1);
        }
        due.is("the first of class 1", x.next(x.writer(1)), 3);
        due.is("the first of class 0", x.next(x.writer(0)), 4);
        due.is("the first of the others", x.next(x.writer(8)), 2);
    }

    /** Promise 8: "-2 when it is not idle". */
    private static void itIsNotIdle(Due due) {
        SpoolRows x = new SpoolRows(16);
        Due.printing(x, 1, 1, 9);
        String before = Due.picture(x);
        due.is("a writer that has one, where there is no other", x.next(1), -2);
        due.isStill("after it", x, before);
        Due.released(x, 1, 1, 1);
        due.is("a writer that has one", x.next(1), -2);
        due.is("the other waits", x.state(2, 0), 2);
        x.print(1, 1);
        due.is("a writer within one", x.next(1), -2);
        x.cut(1);
        due.is("a writer that was cut", x.next(1), -2);
        x.purge(1);
        due.is("a writer whose output's purging waits", x.next(1), -2);
    }

    /** Promise 8: "A writer that is idle takes an output", also when it was not idle before. */
    private static void itIsIdleAgain(Due due) {
        SpoolRows x = new SpoolRows(16);
        Due.printing(x, 1, 1, 1);
        Due.released(x, 2, 1, 1);
        Due.released(x, 3, 1, 1);
        x.print(1, 1);
        due.is("after its output was printed", x.next(1), 2);
        x.purge(2);
        x.cut(1);
        due.is("after its output was purged", x.next(1), 3);
    }

    /** Promise 8: "NONE when there is none such". */
    private static void thereIsNoneSuch(Due due) {
        SpoolRows x = new SpoolRows(16);
        Due.released(x, 1, 1, 1);
        due.is("next(1) where there is no writer at all", x.next(1), SpoolRows.NONE);
        x.writer(8);
        for (int writer : Due.numbersOfNone(1)) {
            due.is("next(" + writer + ")", x.next(writer), SpoolRows.NONE);
        }
        due.is("the output waits", x.state(1, 0), 2);
    }
}
