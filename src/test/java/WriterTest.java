/** Promise 7: writer. */
public final class WriterTest {
    public static void main(String[] args) {
        Due due = new Due();
        numbersCountFromOneOn(due);
        aNewOneIsIdle(due);
        criteriaAroundTheirBounds(due);
        criteriaFarOutside(due);
        thereAreNine(due);
        aRefusedOneLeavesNothing(due);
        due.finish();
    }

    /** Promise 7: "A new writer, idle: its number"; Terms: "WRITERS (numbers from 1 on". */
    private static void numbersCountFromOneOn(Due due) {
        SpoolRows x = new SpoolRows(0);
        due.is("the first writer", x.writer(0), 1);
        due.is("the second writer", x.writer(0), 2);
        due.is("the third writer, of other criteria", x.writer(136), 3);
        due.is("writers", x.count(2), 3);
    }

    /** Promise 7: "A new writer, idle". */
    private static void aNewOneIsIdle(Due due) {
        SpoolRows x = new SpoolRows(16);
        Due.released(x, 1, 1, 1);
        x.writer(8);
        due.is("print of a new one", x.print(1, 1), -2);
        due.is("cut of a new one", x.cut(1), -2);
        due.is("the output waits", x.state(1, 0), 2);
        due.is("next of a new one", x.next(1), 1);
    }

    /**
     * Promise 7: "NONE when criteria is not so"; Terms: "a class 0 .. 7, or 8 any, and 16 times one more than a
     * destination, or 0 any".
     */
    private static void criteriaAroundTheirBounds(Due due) {
        for (int criteria = -300; criteria <= 600; criteria++) {
            boolean right = criteria >= 0 && criteria % 16 <= 8 && criteria / 16 <= 8;
            SpoolRows x = new SpoolRows(16);
            due.is("writer(" + criteria + ")", x.writer(criteria), right ? 1 : SpoolRows.NONE);
            due.is("writers after writer(" + criteria + ")", x.count(2), right ? 1 : 0);
        }
    }

    /** Promise 7: "NONE when criteria is not so", too small and too large, and what would wrap round to 8. */
    private static void criteriaFarOutside(Due due) {
        int[] wrong = {Integer.MIN_VALUE, Integer.MIN_VALUE + 8, -65536, -65528, 65536, 65544, Integer.MAX_VALUE,
            Integer.MAX_VALUE - 7};
        SpoolRows x = new SpoolRows(16);
        for (int criteria : wrong) {
            due.is("writer(" + criteria + ")", x.writer(criteria), SpoolRows.NONE);
        }
        due.is("writers", x.count(2), 0);
    }

    /** Promise 7: "0 when there are 9"; Terms: "at most 9". */
    private static void thereAreNine(Due due) {
        SpoolRows x = new SpoolRows(16);
        for (int i = 1; i <= 9; i++) {
            due.is("writer number " + i, x.writer(8), i);
            due.is("writers", x.count(2), i);
        }
        due.is("the tenth writer", x.writer(8), 0);
        due.is("the tenth writer of other criteria", x.writer(0), 0);
        due.is("writers", x.count(2), 9);
        due.is("a tenth writer of wrong criteria", x.writer(9), SpoolRows.NONE);
        due.is("next(9)", x.next(9), 0);
        due.is("next(10)", x.next(10), SpoolRows.NONE);
    }

    /** Promise 7: "NONE when criteria is not so": a refused one uses up no number. */
    private static void aRefusedOneLeavesNothing(Due due) {
        SpoolRows x = new SpoolRows(16);
        x.writer(-1);
        x.writer(9);
        x.writer(144);
        due.is("next(1)", x.next(1), SpoolRows.NONE);
        due.is("the first that is right", x.writer(8), 1);
    }
}
