/** Promise 16: pseudo. */
public final class PseudoTest {
    private static final Check check = new Check();

    public static void main(String[] args) {
        divides();
        cutTowardsZero();
        wrapsBefore();
        theLeastByMinusOne();
        throwsByZero();
        check.end();
    }

    private static void divides() {
        check.sentence("Promise 16, a times 2^32 divided by b");
        TriangleSets x = new TriangleSets();
        check.due("pseudo(7, 2)", x.pseudo(7, 2), 7L << 31);
        check.due("pseudo(0, 5)", x.pseudo(0, 5), 0);
        check.due("pseudo(1, 1)", x.pseudo(1, 1), 1L << 32);
        check.due("pseudo(1, 2^32)", x.pseudo(1, 1L << 32), 1);
        check.due("pseudo(1, 2^32 + 1)", x.pseudo(1, (1L << 32) + 1), 0);
        check.due("pseudo(2^31 - 1, 1)", x.pseudo((1L << 31) - 1, 1), Long.MAX_VALUE - 0xFFFFFFFFL);
        check.due("pseudo(-2^31, 1)", x.pseudo(-1L << 31, 1), Long.MIN_VALUE);
    }

    private static void cutTowardsZero() {
        check.sentence("Promise 16, cut towards 0");
        TriangleSets x = new TriangleSets();
        check.due("pseudo(1, 3)", x.pseudo(1, 3), 1431655765L);
        check.due("pseudo(-1, 3)", x.pseudo(-1, 3), -1431655765L);
        check.due("pseudo(1, -3)", x.pseudo(1, -3), -1431655765L);
        check.due("pseudo(-1, -3)", x.pseudo(-1, -3), 1431655765L);
        check.due("pseudo(-1, greatest)", x.pseudo(-1, Long.MAX_VALUE), 0);
        check.due("pseudo(2, 3)", x.pseudo(2, 3), 2863311530L);
        check.due("pseudo(-2, 3)", x.pseudo(-2, 3), -2863311530L);
    }

    private static void wrapsBefore() {
        check.sentence("Promise 16, wrapping before");
        TriangleSets x = new TriangleSets();
        check.due("pseudo(2^32, 1)", x.pseudo(1L << 32, 1), 0);
        check.due("pseudo(2^32, 2^32)", x.pseudo(1L << 32, 1L << 32), 0);
        check.due("pseudo(2^31, 1)", x.pseudo(1L << 31, 1), Long.MIN_VALUE);
        check.due("pseudo(2^31, 2)", x.pseudo(1L << 31, 2), Long.MIN_VALUE / 2);
        check.due("pseudo(greatest, 1)", x.pseudo(Long.MAX_VALUE, 1), -1L << 32);
        check.due("pseudo(least, 1)", x.pseudo(Long.MIN_VALUE, 1), 0);
        check.due("pseudo(2^32 + 3, 2)", x.pseudo((1L << 32) + 3, 2), 3L << 31);
        check.due("pseudo(2^31, least)", x.pseudo(1L << 31, Long.MIN_VALUE), 1);
    }

    private static void theLeastByMinusOne() {
        check.sentence("Promise 16, the least long divided by -1 wraps too, and throws nothing");
        TriangleSets x = new TriangleSets();
        check.due("pseudo(2^31, -1)", x.pseudo(1L << 31, -1), Long.MIN_VALUE);
        check.due("pseudo(-2^31, -1)", x.pseudo(-1L << 31, -1), Long.MIN_VALUE);
    }

    private static void throwsByZero() {
        check.sentence("Promise 16, ArithmeticException: b is 0");
        TriangleSets x = new TriangleSets();
        for (long a : new long[] {5, 0, -1, 1L << 32, Long.MAX_VALUE, Long.MIN_VALUE}) {
            boolean thrown = false;
            try {
                x.pseudo(a, 0);
            } catch (ArithmeticException e) {
                thrown = true;
                // The class is to throw it itself, not the division.
                check.due("thrown by the class", "/ by zero".equals(e.getMessage()), false);
            }
            check.due("pseudo(" + a + ", 0) throws", thrown, true);
        }
    }
}
