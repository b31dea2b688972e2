/** Promise 2: output. */
public final class OutputTest {
    public static void main(String[] args) {
        Due due = new Due();
        numbersCountFromOneOn(due);
        aNewOneIsOpenAndEmpty(due);
        theBoundsOfEachArgument(due);
        jobsOutsideTheBounds(due);
        classesOutsideTheBounds(due);
        copiesOutsideTheBounds(due);
        aWrongOneIsNoneWhereThereIsNoRoom(due);
        noMoreThanTheReservedAreFree(due);
        aJobWithAnOutputThatIsThere(due);
        aJobWhoseOutputsAreGone(due);
        pagesThatAreFreeAgain(due);
        aRefusedOneLeavesNothing(due);
        thereAreThousand(due);
        due.finish();
    }

    /** Promise 2: "A new output: its number"; Terms: "An OUTPUT (numbers from 1 on)". */
    private static void numbersCountFromOneOn(Due due) {
        SpoolRows x = new SpoolRows(16);
        due.is("the first output", x.output(9999, 7, 9), 1);
        due.is("the second output", x.output(1, 0, 1), 2);
        x.purge(1);
        x.purge(2);
        due.is("numbers of gone ones are not given again", x.output(1, 0, 1), 3);
    }

    /** Promise 2: "A new output"; Terms: "OPEN (1) at first", "(both 0 at first)", "none at first". */
    private static void aNewOneIsOpenAndEmpty(Due due) {
        SpoolRows x = new SpoolRows(16);
        x.output(77, 3, 9);
        int[] want = {1, 0, 0, 0, 77, 9};
        for (int what = 0; what < want.length; what++) {
            due.is("state(1, " + what + ") of a new one", x.state(1, what), want[what]);
        }
        due.is("a new one takes no page", x.count(0), 16);
        due.is("a new one is not held", x.hold(1, false), 0);
        due.is("its destination and priority", x.route(1, 0), 0);
        for (int i = 1; i <= 40; i++) {
            due.is("it has no limit: line " + i, x.line(1, Due.A_LINE), 1);
        }
    }

    /** Promise 2: "when job, c or copies is not so"; Terms: "a job (1 .. 9999)", "a class 0 .. 7, 1 .. 9 copies". */
    private static void theBoundsOfEachArgument(Due due) {
        int[][] right = {{1, 3, 4}, {9999, 3, 4}, {500, 0, 4}, {500, 7, 4}, {500, 3, 1}, {500, 3, 9}, {1, 0, 1},
            {9999, 7, 9}};
        for (int i = 0; i < right.length; i++) {
            SpoolRows x = new SpoolRows(16);
            int[] r = right[i];
            due.is("output(" + r[0] + ", " + r[1] + ", " + r[2] + ")", x.output(r[0], r[1], r[2]), 1);
            due.is("its job", x.state(1, 4), r[0]);
            due.is("its copies", x.state(1, 5), r[2]);
            Due.lines(x, 1, 1);
            x.end(r[0]);
            due.is("its class", x.next(x.writer(r[1])), 1);
        }
    }

    /** Promise 2: "NONE when job, c or copies is not so", the job; Terms: "a job (1 .. 9999)". */
    private static void jobsOutsideTheBounds(Due due) {
        SpoolRows x = new SpoolRows(16);
        int[] jobs = {0, -1, -9999, 10000, 65537, Integer.MIN_VALUE, Integer.MIN_VALUE + 1, Integer.MAX_VALUE};
        for (int job : jobs) {
            due.is("output(" + job + ", 0, 1)", x.output(job, 0, 1), SpoolRows.NONE);
        }
        due.is("outputs after wrong jobs", x.count(1), 0);
    }

    /** Promise 2: "NONE when job, c or copies is not so", the class; Terms: "a class 0 .. 7". */
    private static void classesOutsideTheBounds(Due due) {
        SpoolRows x = new SpoolRows(16);
        int[] classes = {-1, -8, 8, 9, 16, 256, Integer.MIN_VALUE, Integer.MAX_VALUE};
        for (int c : classes) {
            due.is("output(1, " + c + ", 1)", x.output(1, c, 1), SpoolRows.NONE);
        }
        due.is("outputs after wrong classes", x.count(1), 0);
    }

    /** Promise 2: "NONE when job, c or copies is not so", the copies; Terms: "1 .. 9 copies". */
    private static void copiesOutsideTheBounds(Due due) {
        SpoolRows x = new SpoolRows(16);
        int[] copies = {0, -1, -9, 10, 257, Integer.MIN_VALUE, Integer.MIN_VALUE + 1, Integer.MAX_VALUE};
        for (int c : copies) {
            due.is("output(1, 0, " + c + ")", x.output(1, 0, c), SpoolRows.NONE);
        }
        due.is("outputs after wrong copies", x.count(1), 0);
    }

    /** Promise 2: "NONE when job, c or copies is not so", also where a right one is refused. */
    private static void aWrongOneIsNoneWhereThereIsNoRoom(Due due) {
        SpoolRows x = new SpoolRows(0);
        due.is("a right one", x.output(1, 0, 1), 0);
        due.is("a wrong job", x.output(0, 0, 1), SpoolRows.NONE);
        due.is("a wrong class", x.output(1, 8, 1), SpoolRows.NONE);
        due.is("wrong copies", x.output(1, 0, 10), SpoolRows.NONE);
    }

    /**
     * Promise 2: "0 when there is no room for it (by what is reserved"; Terms: "an eighth of the room (whole part)"
     * and "gets none when no more than these are free".
     */
    private static void noMoreThanTheReservedAreFree(Due due) {
        due.is("a new job in a room of 0", new SpoolRows(0).output(2, 0, 1), 0);
        for (int room = 1; room <= 33; room++) {
            int reserved = room / 8;
            for (int free = 0; free <= Math.min(room, reserved + 2); free++) {
                SpoolRows x = new SpoolRows(room);
                Due.open(x, 1, 1, (room - free) * 8);
                due.is("free pages", x.count(0), free);
                due.is("a new job with " + free + " free of " + room, x.output(2, 0, 1), free > reserved ? 2 : 0);
            }
        }
    }

    /** Promise 2, Terms: only "a job without an output that is there gets none". */
    private static void aJobWithAnOutputThatIsThere(Due due) {
        SpoolRows x = new SpoolRows(8);
        Due.released(x, 2, 1, 8);
        Due.open(x, 3, 1, 8);
        x.next(x.writer(8));
        Due.released(x, 4, 1, 8);
        Due.open(x, 5, 1, 0);
        x.output(6, 0, 1);
        x.hold(5, true);
        Due.open(x, 1, 1, 5 * 8);
        due.is("free pages", x.count(0), 0);
        due.is("a job whose output prints", x.output(2, 0, 1), 7);
        due.is("a job whose output is open", x.output(3, 0, 1), 8);
        due.is("a job whose output is released", x.output(4, 0, 1), 9);
        due.is("a job whose output has no lines", x.output(5, 0, 1), 10);
        due.is("a job whose output is held", x.output(6, 0, 1), 11);
        due.is("a job without one", x.output(7, 0, 1), 0);
    }

    /** Promise 2, Terms: "a job without an output that is there gets none": gone ones are not there. */
    private static void aJobWhoseOutputsAreGone(Due due) {
        SpoolRows x = new SpoolRows(8);
        Due.printing(x, 2, 1, 1);
        x.print(1, 1);
        x.purge(Due.open(x, 3, 1, 1));
        x.output(4, 0, 1);
        x.end(4);
        Due.open(x, 1, 1, 7 * 8);
        due.is("free pages", x.count(0), 1);
        due.is("a job whose only output is printed", x.output(2, 0, 1), 0);
        due.is("a job whose only output is purged", x.output(3, 0, 1), 0);
        due.is("a job that ended without lines", x.output(4, 0, 1), 0);
        due.is("the job that has the pages", x.output(1, 0, 1), 5);
    }

    /** Promise 2, Terms: a page "is free again when the output is gone", so that a new job has room. */
    private static void pagesThatAreFreeAgain(Due due) {
        SpoolRows x = new SpoolRows(8);
        Due.open(x, 1, 1, 6 * 8);
        Due.open(x, 1, 1, 1);
        due.is("a new job with 1 free", x.output(2, 0, 1), 0);
        x.purge(2);
        due.is("a new job with 2 free", x.output(2, 0, 1), 3);
    }

    /** Promise 2: "0 when there is no room for it" and "NONE": a refused one uses up no number and changes nothing. */
    private static void aRefusedOneLeavesNothing(Due due) {
        SpoolRows x = new SpoolRows(1);
        Due.open(x, 1, 1, 8);
        String before = Due.picture(x);
        x.output(2, 0, 1);
        x.output(2, 0, 1);
        x.output(0, 0, 1);
        x.output(1, 8, 1);
        x.output(1, 0, 0);
        due.isStill("after refused outputs", x, before);
        due.is("the next that is given", x.output(1, 0, 1), 2);
    }

    /** Promise 2: "0 when there is no room for it (.. or there are 1000)"; no 512 calls can make so many. */
    private static void thereAreThousand(Due due) {
        SpoolRows x = new SpoolRows(8);
        for (int i = 1; i <= 1000; i++) {
            due.is("output number " + i, x.output(1, 0, 1), i);
        }
        due.is("the output after 1000", x.output(1, 0, 1), 0);
        due.is("a wrong output after 1000", x.output(0, 0, 1), SpoolRows.NONE);
        due.is("outputs that are not gone", x.count(1), 1000);
        due.is("the last of them", x.state(1000, 0), 1);
        due.is("one more", x.state(1001, 0), SpoolRows.NONE);
    }
}
