/** No call ever throws but pseudo() by 0, whatever its arguments and whatever came before. */
public final class ExtremesTest {
    private static final int[] INTS = {Integer.MIN_VALUE, -9, -1, 0, 1, 3, 7, 8, 15, 16, 60, 0x7FFFFFFF};
    private static final long[] LONGS = {Long.MIN_VALUE, -(1L << 27), -1, 0, 1, 1L << 26, Long.MAX_VALUE};
    // So that no object has more than its 512 calls.
    private static final int TURNS_OF_AN_OBJECT = 7;

    public static void main(String[] args) {
        Check check = new Check();
        check.sentence("All promises, a call throws only where the document says so, for any arguments");
        int turns = 0;
        TriangleSets fresh = null;
        TriangleSets full = null;
        for (int a : INTS) {
            for (int b : INTS) {
                if (turns % TURNS_OF_AN_OBJECT == 0) {
                    fresh = new TriangleSets();
                    full = full();
                }
                callAll(fresh, a, b);
                callAll(full, a, b);
                turns++;
            }
        }
        check.due("turns", turns, INTS.length * INTS.length);
        check.end();
    }

    private static TriangleSets full() {
        TriangleSets x = Build.with("fdddddfd");
        for (int k = 0; k < 16; k++) {
            int p = Build.sum(x, k + 1, k << 4, -1, 0x100 << k % 6, 1, 0x80000000 >>> k);
            x.use(p, k % 3 == 0);
        }
        return x;
    }

    private static void callAll(TriangleSets x, int a, int b) {
        x.order(a, b);
        for (long v : LONGS) {
            x.term(a, v, b);
            x.point(a, v);
            x.pseudo(v, -1);
        }
        x.use(a, b > 0);
        x.decompose();
        x.prove(b);
        x.member(a, b);
        x.told(a);
        x.quotient(b);
        x.value(a, b);
        for (int c : INTS) {
            x.coefficient(a, b, c);
            x.powers(a, b, c);
        }
    }
}
