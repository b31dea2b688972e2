/** Promise 8. */
public final class NextTest {
    public static void main(String[] args) {
        Due due = new Due();
        prioritiesThenJobsThenNumbers(due);
        onlyReleasedOnesThatAreNotHeld(due);
        classesMustSuit(due);
        destinationsMustSuit(due);
        notIdle(due);
        wrongInputsAreNone(due);
        due.finish();
    }

    private static void prioritiesThenJobsThenNumbers(Due due) {
        SpoolRows x = new SpoolRows(16);
        int[] jobs = {9, 5, 5, 7, 8, 9, 6};
        int[] priorities = {0, 0, 0, 3, 2, 3, 0};
        for (int i = 0; i < jobs.length; i++) {
            int output = Due.open(x, jobs[i], 1, 1);
            x.route(output, 8 * priorities[i] + i);
        }
        for (int job = 5; job <= 9; job++) {
            x.end(job);
        }
        x.writer(8);
        int[] want = {4, 6, 5, 2, 3, 7, 1, 0};
        for (int number : want) {
            due.is("the next in order", x.next(1), number);
            due.is("it is printing", x.state(number, 0), number == 0 ? SpoolRows.NONE : 3);
            x.print(1, 1);
        }
    }

    private static void onlyReleasedOnesThatAreNotHeld(Due due) {
        SpoolRows x = new SpoolRows(16);
        x.writer(8);
        Due.open(x, 1, 1, 1);
        due.is("an open one", x.next(1), 0);
        x.end(1);
        x.hold(1, true);
        due.is("a held one", x.next(1), 0);
        x.hold(1, false);
        due.is("one that is not held any more", x.next(1), 1);
        x.writer(8);
        due.is("one that another writer has", x.next(2), 0);
        x.print(1, 1);
        due.is("one that is printed", x.next(1), 0);
        x.purge(Due.released(x, 1, 1, 1));
        due.is("one that is purged", x.next(1), 0);
        Due.open(x, 2, 1, 0);
        x.end(2);
        due.is("one without lines", x.next(1), 0);
    }

    private static void classesMustSuit(Due due) {
        for (int kind = 0; kind < 8; kind++) {
            for (int wanted = 0; wanted <= 8; wanted++) {
                SpoolRows x = new SpoolRows(16);
                x.output(1, kind, 1);
                Due.lines(x, 1, 1);
                x.end(1);
                x.writer(wanted);
                due.is("class " + kind + " for criteria " + wanted, x.next(1), wanted == 8 || wanted == kind ? 1 : 0);
            }
        }
    }

    private static void destinationsMustSuit(Due due) {
        for (int destination = 0; destination < 8; destination++) {
            for (int wanted = 0; wanted <= 8; wanted++) {
                SpoolRows x = new SpoolRows(16);
                Due.released(x, 1, 1, 1);
                x.route(1, destination);
                x.writer(16 * wanted + 8);
                due.is("destination " + destination + " for criteria " + (16 * wanted + 8), x.next(1),
                        wanted == 0 || wanted == destination + 1 ? 1 : 0);
            }
        }
    }

    private static void notIdle(Due due) {
        SpoolRows x = new SpoolRows(16);
        Due.printing(x, 1, 1, 9);
        Due.released(x, 1, 1, 1);
        due.is("a writer that has one", x.next(1), -2);
        x.print(1, 1);
        due.is("a writer within one", x.next(1), -2);
        x.print(1, 1);
        due.is("a writer that is idle again", x.next(1), 2);
        x.cut(1);
        due.is("a writer that was cut", x.next(1), -2);
    }

    private static void wrongInputsAreNone(Due due) {
        SpoolRows x = new SpoolRows(16);
        x.writer(8);
        int[] writers = {0, -1, 2, 10, Integer.MIN_VALUE, Integer.MAX_VALUE};
        for (int writer : writers) {
            due.is("next(" + writer + ")", x.next(writer), SpoolRows.NONE);
        }
    }
}
