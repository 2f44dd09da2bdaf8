/** Promise 16: pseudo. */
public final class PseudoTest {
    public static void main(String[] args) {
        Check check = new Check();
        TriangleSets x = new TriangleSets();
        check.due("7 / 2", x.pseudo(7, 2), 7L << 31);
        check.due("1 / 3", x.pseudo(1, 3), 1431655765L);
        check.due("-1 / 3", x.pseudo(-1, 3), -1431655765L);
        check.due("1 / -3", x.pseudo(1, -3), -1431655765L);
        check.due("0 / 5", x.pseudo(0, 5), 0);
        check.due("wraps to 0", x.pseudo(1L << 32, 1), 0);
        check.due("wraps to the least", x.pseudo(1L << 31, 1), Long.MIN_VALUE);
        check.due("the least by -1", x.pseudo(1L << 31, -1), Long.MIN_VALUE);
        check.due("wraps", x.pseudo(Long.MAX_VALUE, 1), -1L << 32);
        check.due("by the least", x.pseudo(1L << 31, Long.MIN_VALUE), 1);
        dueThrows(check, x, 5);
        dueThrows(check, x, 0);
        check.end();
    }

    private static void dueThrows(Check check, TriangleSets x, long a) {
        boolean thrown = false;
        try {
            x.pseudo(a, 0);
        } catch (ArithmeticException e) {
            thrown = true;
            // The class is to throw it itself, not the division.
            check.due("thrown by the class", "/ by zero".equals(e.getMessage()), false);
        }
        check.due("pseudo(" + a + ", 0) throws", thrown, true);
    }
}
