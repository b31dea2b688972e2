/** Promise 7. */
public final class WriterTest {
    public static void main(String[] args) {
        Due due = new Due();
        criteriaAreTested(due);
        atMostNine(due);
        due.finish();
    }

    private static void criteriaAreTested(Due due) {
        for (int criteria = -40; criteria <= 300; criteria++) {
            boolean right = criteria >= 0 && criteria % 16 <= 8 && criteria / 16 <= 8;
            SpoolRows x = new SpoolRows(16);
            due.is("writer(" + criteria + ")", x.writer(criteria), right ? 1 : SpoolRows.NONE);
            due.is("writers after writer(" + criteria + ")", x.count(2), right ? 1 : 0);
        }
        due.is("writer(the least)", new SpoolRows(16).writer(Integer.MIN_VALUE), SpoolRows.NONE);
        due.is("writer(the greatest)", new SpoolRows(16).writer(Integer.MAX_VALUE), SpoolRows.NONE);
    }

    private static void atMostNine(Due due) {
        SpoolRows x = new SpoolRows(16);
        for (int i = 1; i <= 9; i++) {
            due.is("writer number " + i, x.writer(8), i);
            due.is("it is idle", x.print(i, 1), -2);
        }
        due.is("the tenth writer", x.writer(8), 0);
        due.is("a wrong tenth writer", x.writer(9), SpoolRows.NONE);
        due.is("writers", x.count(2), 9);
        due.is("next(9)", x.next(9), 0);
        due.is("next(10)", x.next(10), SpoolRows.NONE);
    }
}
