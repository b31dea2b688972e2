/** Promise 15. */
public final class OrderTest {
    public static void main(String[] args) {
        Due due = new Due();
        SpoolRows x = new SpoolRows(16);
        // Of different numbers of pages, so that they end in another order than they begin.
        Due.printing(x, 1, 1, 17);
        Due.printing(x, 2, 1, 1);
        Due.printing(x, 3, 1, 9);
        due.is("order(0) before any is printed", x.order(0), 0);
        x.print(3, 2);
        x.print(1, 2);
        x.print(2, 1);
        due.is("order(2) before the third is printed", x.order(2), 0);
        x.purge(Due.released(x, 4, 1, 1));
        x.print(1, 1);
        due.is("order(0)", x.order(0), 3);
        due.is("order(1)", x.order(1), 2);
        due.is("order(2)", x.order(2), 1);
        int[] none = {3, -1, 1000, Integer.MIN_VALUE, Integer.MAX_VALUE};
        for (int i : none) {
            due.is("order(" + i + ")", x.order(i), 0);
        }
        due.finish();
    }
}
