/** Part 'Terms': "A call that is refused changes nothing.", for each promise that refuses. */
public final class RefusedTest {
    private static final int[] FAR_OFF = {Integer.MIN_VALUE, -1, 0x7FFFFFFF};
    private static final Check check = new Check();

    public static void main(String[] args) {
        variable();
        order();
        polynomial();
        termOfNoSuchOne();
        termNotSound();
        use();
        decomposeWithoutHypotheses();
        decomposeOfZeroAlone();
        prove();
        proveWithoutSet();
        point();
        pseudo();
        asking();
        check.end();
    }

    /** With THE SET, a remainder and quotients: 2 x = a, b y = x^2, and of y + b x. */
    private static TriangleSets proven() {
        TriangleSets x = Build.with("ffdd");
        Build.hypothesis(x, 2, 0x0100, -1, 0x0001);
        Build.hypothesis(x, 1, 0x1010, -1, 0x0200);
        Build.sum(x, 1, 0x1000, 1, 0x0110);
        Build.sum(x, 1, 0x0001, 2, 0x0010, 3, 0x0100, 4, 0x1000);
        for (int k = 0; k < 4; k++) {
            x.point(k, 3 + 4 * k);
        }
        check.due("decompose", x.decompose(), 1);
        check.due("prove", x.prove(2), 0);
        check.due("remainder", x.told(9) > 0, true);
        check.due("quotient", x.quotient(1) != 0, true);
        return x;
    }

    /** With a CONDITION: x = a, x = 3 a - 2. */
    private static TriangleSets conditioned() {
        TriangleSets x = Build.with("fd");
        Build.hypothesis(x, 1, 0x10, -1, 0x1);
        Build.hypothesis(x, 1, 0x10, -3, 0x1, 2, 0);
        x.point(0, 9);
        x.point(1, 5);
        check.due("decompose", x.decompose(), 0);
        return x;
    }

    private static void variable() {
        check.sentence("Promise 2, a refused variable() changes nothing");
        TriangleSets x = proven();
        for (int k = 4; k < 8; k++) {
            x.variable(true);
        }
        x.order(0, 7);
        x.decompose();
        x.prove(2);
        String before = View.of(x);
        check.due("variable(true)", x.variable(true), -1);
        check.due("variable(false)", x.variable(false), -1);
        check.due("all", View.of(x), before);
    }

    private static void order() {
        check.sentence("Promise 3, a refused order() changes nothing");
        TriangleSets x = proven();
        String before = View.of(x);
        check.due("order(0, 4)", x.order(0, 4), false);
        check.due("order(4, 0)", x.order(4, 0), false);
        for (int far : FAR_OFF) {
            check.due("order(0, " + far + ")", x.order(0, far), false);
            check.due("order(" + far + ", 0)", x.order(far, 0), false);
        }
        check.due("all", View.of(x), before);
        x = conditioned();
        before = View.of(x);
        check.due("order(0, 2)", x.order(0, 2), false);
        check.due("order(2, 0)", x.order(2, 0), false);
        check.due("all", View.of(x), before);
    }

    private static void polynomial() {
        check.sentence("Promise 4, a refused polynomial() changes nothing");
        TriangleSets x = proven();
        for (int k = 4; k < 16; k++) {
            x.polynomial();
        }
        String before = View.of(x);
        check.due("polynomial()", x.polynomial(), -1);
        check.due("all", View.of(x), before);
    }

    private static void termOfNoSuchOne() {
        check.sentence("Promise 5, a refused term() changes nothing: of no such POLYNOMIAL or VARIABLE");
        TriangleSets x = proven();
        String before = View.of(x);
        check.due("term(4, 1, 0)", x.term(4, 1, 0), false);
        for (int far : FAR_OFF) {
            check.due("term(" + far + ", 1, 0)", x.term(far, 1, 0), false);
        }
        for (int p = 0; p < 4; p++) {
            check.due("term(" + p + ", 1, 0x10000)", x.term(p, 1, 0x10000), false);
            check.due("term(" + p + ", 0, 0x10000)", x.term(p, 0, 0x10000), false);
            check.due("term(" + p + ", 1, -1)", x.term(p, 1, -1), false);
        }
        check.due("all", View.of(x), before);
    }

    private static void termNotSound() {
        check.sentence("Promise 5, a refused term() changes nothing: not SOUND");
        TriangleSets x = proven();
        String before = View.of(x);
        for (int p = 0; p < 4; p++) {
            check.due("new, too great", x.term(p, (1L << 26) + 1, 0x3333), false);
            check.due("new, too little", x.term(p, -(1L << 26) - 1, 0x3333), false);
            check.due("greatest", x.term(p, Long.MAX_VALUE, 0x3333), false);
            check.due("least", x.term(p, Long.MIN_VALUE, 0x3333), false);
        }
        check.due("known, too great", x.term(0, 1L << 26, 0x0100), false);
        check.due("known, too little", x.term(0, -(1L << 26), 0x0001), false);
        check.due("all", View.of(x), before);
        x = Build.with("fd");
        int p = Build.hypothesis(x);
        for (int k = 0; k < 60; k++) {
            x.term(p, k + 1, k);
        }
        check.due("decompose", x.decompose(), 1);
        check.due("61st", x.term(p, 1, 60), false);
        check.due("61st, the greatest", x.term(p, 1, 0xFF), false);
        // Not by a View: an object has 512 calls.
        check.due("members", x.told(3), 1);
        for (int t = 0; t < 60; t++) {
            check.due("term " + t, x.coefficient(0, p, t), 60 - t);
            check.due("term " + t, x.powers(0, p, t), 59 - t);
        }
        check.due("behind", x.powers(0, p, 60), -1);
    }

    private static void use() {
        check.sentence("Promise 6, a refused use() changes nothing");
        TriangleSets x = proven();
        String before = View.of(x);
        check.due("use(0, true)", x.use(0, true), false);
        check.due("use(1, true)", x.use(1, true), false);
        check.due("use(2, false)", x.use(2, false), false);
        check.due("use(4, true)", x.use(4, true), false);
        check.due("use(4, false)", x.use(4, false), false);
        for (int far : FAR_OFF) {
            check.due("use(" + far + ", true)", x.use(far, true), false);
            check.due("use(" + far + ", false)", x.use(far, false), false);
        }
        check.due("all", View.of(x), before);
    }

    private static void decomposeWithoutHypotheses() {
        check.sentence("Promise 7, a refused decompose() changes nothing: no HYPOTHESES");
        TriangleSets x = proven();
        x.use(0, false);
        x.use(1, false);
        String before = View.of(x);
        check.due("decompose", x.decompose(), -1);
        check.due("all", View.of(x), before);
        Build.dueTold(check, "told still", x, 3, 0, 2, 3, 5, x.told(7), 0, 0);
        x = conditioned();
        x.use(0, false);
        x.use(1, false);
        before = View.of(x);
        check.due("decompose", x.decompose(), -1);
        check.due("all", View.of(x), before);
        Build.dueTold(check, "told still", x, 3, 0, 1, 2, 1, 0, 2, 0);
    }

    private static void decomposeOfZeroAlone() {
        check.sentence("Promise 7, a refused decompose() changes nothing: HYPOTHESES that are 0");
        TriangleSets x = conditioned();
        x.use(0, false);
        x.use(1, false);
        int zero = Build.hypothesis(x);
        String before = View.of(x);
        check.due("decompose", x.decompose(), -1);
        check.due("all", View.of(x), before);
        // The next one that is not refused counts anew.
        x.term(zero, 1, 0x10);
        check.due("decompose", x.decompose(), 1);
        Build.dueTold(check, "anew", x, 3, 1, 1, 1, 0, 0, 0, 0);
    }

    private static void prove() {
        check.sentence("Promise 8, a refused prove() changes nothing: no such POLYNOMIAL");
        TriangleSets x = proven();
        String before = View.of(x);
        check.due("prove(4)", x.prove(4), -1);
        for (int far : FAR_OFF) {
            check.due("prove(" + far + ")", x.prove(far), -1);
        }
        check.due("all", View.of(x), before);
    }

    private static void proveWithoutSet() {
        check.sentence("Promise 8, a refused prove() changes nothing: no SET");
        TriangleSets x = proven();
        x.order(0, 1);
        String before = View.of(x);
        check.due("prove(2)", x.prove(2), -1);
        check.due("all", View.of(x), before);
        x = conditioned();
        before = View.of(x);
        check.due("prove(0)", x.prove(0), -1);
        check.due("all", View.of(x), before);
    }

    private static void point() {
        check.sentence("Promise 13, a refused point() changes nothing");
        TriangleSets x = proven();
        String before = View.of(x);
        check.due("point(4, 1)", x.point(4, 1), false);
        for (int far : FAR_OFF) {
            check.due("point(" + far + ", 1)", x.point(far, 1), false);
        }
        check.due("all", View.of(x), before);
    }

    private static void pseudo() {
        check.sentence("Promise 16, a refused pseudo() changes nothing");
        TriangleSets x = proven();
        String before = View.of(x);
        boolean thrown = false;
        try {
            x.pseudo(7, 0);
        } catch (ArithmeticException e) {
            thrown = true;
        }
        check.due("pseudo(7, 0) throws", thrown, true);
        check.due("all", View.of(x), before);
    }

    private static void asking() {
        check.sentence("Promises 9 to 12, 14 to 16, asking changes nothing, for what there is and what not");
        TriangleSets x = proven();
        String before = View.of(x);
        for (int a = -1; a < 7; a++) {
            x.told(2 * a);
            x.quotient(a);
            x.member(a, 3);
            x.value(a, 0);
            x.value(a, 1);
            x.coefficient(a, 0, 1);
            x.powers(a, 1, 0);
            x.pseudo(a, 3);
        }
        check.due("all", View.of(x), before);
    }
}
