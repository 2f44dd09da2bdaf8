/** Promises 1 to 6 and 13: a new object, variable, order, polynomial, term, use, point. */
public final class SetupTest {
    private static final int[] FAR_OFF = {Integer.MIN_VALUE, -1, 0x7FFFFFFF};
    private static final Check check = new Check();

    public static void main(String[] args) {
        newObject();
        fiveHundredAndTwelveCalls();
        variableNumbers();
        variableNinth();
        variableAtTheEndOfTheOrder();
        variableFree();
        orderAtFirst();
        orderMoves();
        orderOfNoSuchVariable();
        orderToNoSuchPlace();
        orderWithoutVariables();
        polynomialIsZero();
        polynomialSeventeenth();
        termComes();
        termFourBits();
        termOfNoSuchPolynomial();
        termOfNoSuchVariable();
        termSixtyFirst();
        termCoefficientsTooGreat();
        termCoefficientsThatWouldWrap();
        termOfZero();
        useAndNoMore();
        useOfNoSuchPolynomial();
        useThatWasSo();
        pointIsSet();
        pointAtFirst();
        pointOfNoSuchVariable();
        check.end();
    }

    private static void newObject() {
        check.sentence("Promise 1, Nothing at all");
        TriangleSets x = new TriangleSets();
        Build.dueTold(check, "new", x, -1, -1, 0, 0, 0, 0, 0, 0, 0, 0, 0, 0, -1);
        check.due("decompose()", x.decompose(), -1);
        check.due("prove(0)", x.prove(0), -1);
        check.due("order(0, 0)", x.order(0, 0), false);
        check.due("term(0, 1, 0)", x.term(0, 1, 0), false);
        check.due("use(0, true)", x.use(0, true), false);
        check.due("point(0, 1)", x.point(0, 1), false);
        for (int what = -1; what < 5; what++) {
            check.due("member(0, " + what + ")", x.member(0, what), -1);
        }
        for (int of = 0; of < 5; of++) {
            Build.due(check, "sum " + of, x, of, 0);
            check.due("value(" + of + ", 0)", x.value(of, 0), 0);
        }
        check.due("quotient(0)", x.quotient(0), 0);
        TriangleSets other = new TriangleSets();
        x.variable(false);
        x.polynomial();
        check.due("variables of another object", other.told(0), 0);
        check.due("polynomials of another object", other.told(1), 0);
    }

    private static void fiveHundredAndTwelveCalls() {
        check.sentence("What it is, An object is used for at most 512 calls");
        TriangleSets x = Build.with("fd");
        Build.hypothesis(x, 1, 0x10, -1, 0x1);
        int p = Build.sum(x, 1, 0x20);
        x.decompose();
        check.due("call 10", x.told(3), 1);
        for (int k = 0; k < 250; k++) {
            x.point(0, k);
            x.prove(p);
        }
        check.due("call 511", x.value(3, 0), 249 * 249);
        check.due("call 512", x.quotient(0), 249);
    }

    private static void variableNumbers() {
        check.sentence("Promise 2, Answers its number");
        TriangleSets x = new TriangleSets();
        for (int k = 0; k < 8; k++) {
            check.due("variable " + k, x.variable(k % 2 == 0), k);
            check.due("told(0)", x.told(0), k + 1);
        }
    }

    private static void variableNinth() {
        check.sentence("Promise 2, NONE when there are 8");
        TriangleSets x = Build.with("dddddddd");
        check.due("a ninth", x.variable(false), -1);
        check.due("a ninth, free", x.variable(true), -1);
        check.due("told(0)", x.told(0), 8);
        check.due("point(7, 1)", x.point(7, 1), true);
        check.due("point(8, 1)", x.point(8, 1), false);
    }

    private static void variableAtTheEndOfTheOrder() {
        check.sentence("Promise 2, at the end of THE ORDER");
        TriangleSets x = Build.with("dd");
        x.order(0, 1);
        check.due("variable", x.variable(true), 2);
        int p = Build.sum(x, 1, 0x1, 2, 0x10, 3, 0x100);
        Build.due(check, "1 0 2", x, 0, p, 3, 0x100, 1, 0x1, 2, 0x10);
    }

    private static void variableFree() {
        check.sentence("Promise 2, FREE or not");
        TriangleSets x = Build.with("fdfdfdfd");
        // VARIABLE 6 is higher, but FREE, and so never MAIN.
        Build.hypothesis(x, 1, 0x01000000, 1, 0x00200001);
        check.due("decompose", x.decompose(), 1);
        check.due("main variable under a free one", x.member(0, 0), 5);
        check.due("degree in it", x.member(0, 1), 2);
    }

    private static void orderAtFirst() {
        check.sentence("Terms, at first 0, 1, .., the higher place is the higher VARIABLE");
        TriangleSets x = Build.with("fdfd");
        int p = Build.sum(x, 1, 0x1, 2, 0x10, 3, 0x100, 4, 0x1000);
        Build.due(check, "0 1 2 3", x, 0, p, 4, 0x1000, 3, 0x100, 2, 0x10, 1, 0x1);
        Build.hypothesis(x, 1, 0x1000, 1, 0x10);
        x.decompose();
        check.due("main variable", x.member(0, 0), 3);
        x.order(3, 1);
        x.decompose();
        check.due("main variable of 0 2 3 1", x.member(0, 0), 1);
    }

    private static void orderMoves() {
        check.sentence("Promise 3, to place i of THE ORDER, all others stay in theirs among themselves");
        TriangleSets x = Build.with("ddd");
        int p = Build.sum(x, 1, 0x1, 2, 0x10, 3, 0x100);
        check.due("order(0, 2)", x.order(0, 2), true);
        Build.due(check, "2 0 1", x, 0, p, 2, 0x10, 1, 0x1, 3, 0x100);
        check.due("order(2, 2)", x.order(2, 2), true);
        Build.due(check, "0 1 2", x, 0, p, 3, 0x100, 2, 0x10, 1, 0x1);
        check.due("order(2, 0)", x.order(2, 0), true);
        Build.due(check, "1 2 0", x, 0, p, 1, 0x1, 3, 0x100, 2, 0x10);
        check.due("order(1, 0)", x.order(1, 0), true);
        Build.due(check, "1 0 2", x, 0, p, 3, 0x100, 1, 0x1, 2, 0x10);
        check.due("order(1, 0)", x.order(1, 0), true);
        Build.due(check, "1 0 2 still", x, 0, p, 3, 0x100, 1, 0x1, 2, 0x10);
    }

    private static void orderOfNoSuchVariable() {
        check.sentence("Promise 3, false when there is no such VARIABLE");
        TriangleSets x = Build.with("ddd");
        int p = Build.sum(x, 1, 0x1, 2, 0x10, 3, 0x100);
        check.due("order(0, 3)", x.order(0, 3), false);
        for (int variable : FAR_OFF) {
            check.due("order(0, " + variable + ")", x.order(0, variable), false);
        }
        Build.due(check, "0 1 2", x, 0, p, 3, 0x100, 2, 0x10, 1, 0x1);
        check.due("order(0, 2)", x.order(0, 2), true);
    }

    private static void orderToNoSuchPlace() {
        check.sentence("Promise 3, false when there is no such place");
        TriangleSets x = Build.with("ddd");
        int p = Build.sum(x, 1, 0x1, 2, 0x10, 3, 0x100);
        check.due("order(3, 0)", x.order(3, 0), false);
        for (int place : FAR_OFF) {
            check.due("order(" + place + ", 0)", x.order(place, 0), false);
        }
        Build.due(check, "0 1 2", x, 0, p, 3, 0x100, 2, 0x10, 1, 0x1);
        check.due("order(2, 0)", x.order(2, 0), true);
        TriangleSets full = Build.with("dddddddd");
        check.due("order(8, 0) of eight", full.order(8, 0), false);
        check.due("order(7, 0) of eight", full.order(7, 0), true);
        check.due("order(0, 7) of eight", full.order(0, 7), true);
    }

    private static void orderWithoutVariables() {
        check.sentence("Promise 3, false when there is no VARIABLE at all");
        TriangleSets x = new TriangleSets();
        check.due("order(0, 0)", x.order(0, 0), false);
        x.variable(true);
        check.due("order(0, 0) of one", x.order(0, 0), true);
        check.due("order(1, 0) of one", x.order(1, 0), false);
        check.due("order(0, 1) of one", x.order(0, 1), false);
    }

    private static void polynomialIsZero() {
        check.sentence("Promise 4, A new POLYNOMIAL, 0. Answers its number");
        TriangleSets x = new TriangleSets();
        for (int k = 0; k < 16; k++) {
            check.due("polynomial " + k, x.polynomial(), k);
            Build.due(check, "it is 0", x, 0, k);
            check.due("its value", x.value(0, k), 0);
        }
        check.due("hypotheses", x.told(2), 0);
    }

    private static void polynomialSeventeenth() {
        check.sentence("Promise 4, NONE when there are 16");
        TriangleSets x = new TriangleSets();
        for (int k = 0; k < 16; k++) {
            x.polynomial();
        }
        check.due("a 17th", x.polynomial(), -1);
        check.due("an 18th", x.polynomial(), -1);
        check.due("told(1)", x.told(1), 16);
        check.due("term(15, 1, 0)", x.term(15, 1, 0), true);
        check.due("term(16, 1, 0)", x.term(16, 1, 0), false);
    }

    private static void termComes() {
        check.sentence("Promise 5, v times powers comes to a POLYNOMIAL");
        TriangleSets x = Build.with("fd");
        int p = x.polynomial();
        check.due("term", x.term(p, 3, 0x21), true);
        check.due("again", x.term(p, 4, 0x21), true);
        check.due("another", x.term(p, -1, 0x30), true);
        Build.due(check, "sum", x, 0, p, -1, 0x30, 7, 0x21);
        // A coefficient is never 0: what cancels is no TERM any more.
        check.due("taken away", x.term(p, -7, 0x21), true);
        Build.due(check, "less", x, 0, p, -1, 0x30);
        check.due("taken away", x.term(p, 1, 0x30), true);
        Build.due(check, "0 again", x, 0, p);
    }

    private static void termFourBits() {
        check.sentence("Promise 5, four bits for each VARIABLE, those of VARIABLE 0 the lowest");
        TriangleSets x = Build.with("ffffffff");
        int p = Build.sum(x, 1, 0x87654321);
        for (int k = 0; k < 8; k++) {
            x.point(k, 1);
        }
        for (int k = 0; k < 8; k++) {
            x.point(k, 2);
            check.due("power of " + k, x.value(0, p), 1L << (k + 1));
            x.point(k, 1);
        }
        check.due("powers", x.powers(0, p, 0), 0x87654321);
        int most = Build.sum(x, 2, -1);
        check.due("all of 15", x.powers(0, most, 0), -1);
        check.due("coefficient", x.coefficient(0, most, 0), 2);
        x.point(3, 3);
        check.due("value", x.value(0, most), 2 * 14348907);
    }

    private static void termOfNoSuchPolynomial() {
        check.sentence("Promise 5, false when there is no such one");
        TriangleSets x = Build.with("fd");
        check.due("term(0, 1, 0)", x.term(0, 1, 0), false);
        int p = x.polynomial();
        check.due("term(1, 1, 0)", x.term(p + 1, 1, 0), false);
        for (int polynomial : FAR_OFF) {
            check.due("term(" + polynomial + ", 1, 0)", x.term(polynomial, 1, 0), false);
            check.due("term(" + polynomial + ", 0, 0)", x.term(polynomial, 0, 0), false);
        }
        Build.due(check, "the one that there is", x, 0, p);
    }

    private static void termOfNoSuchVariable() {
        check.sentence("Promise 5, false when powers name a VARIABLE that there is not");
        for (int count = 0; count < 8; count++) {
            TriangleSets x = Build.with("dddddddd".substring(0, count));
            int p = x.polynomial();
            for (int k = count; k < 8; k++) {
                check.due(count + " variables, " + k, x.term(p, 1, 1 << 4 * k), false);
                check.due(count + " variables, 15 of " + k, x.term(p, 1, 15 << 4 * k), false);
            }
            check.due(count + " variables, all others", x.term(p, 1, -1), false);
            check.due(count + " variables, 0 times", x.term(p, 0, 1 << 4 * count), false);
            Build.due(check, "as before", x, 0, p);
            check.due(count + " variables, all", x.term(p, 1, (1 << 4 * count) - 1), true);
        }
    }

    private static void termSixtyFirst() {
        check.sentence("Promise 5, false when it would not be SOUND: 60 TERMS at most");
        TriangleSets x = Build.with("dd");
        int p = x.polynomial();
        for (int k = 0; k < 60; k++) {
            check.due("term " + k, x.term(p, k + 1, k), true);
        }
        check.due("61st", x.term(p, 1, 60), false);
        check.due("61st, least", x.term(p, -1, 255), false);
        check.due("one of the 60", x.term(p, 1, 59), true);
        check.due("the last of them", x.powers(0, p, 59), 0);
        check.due("one away", x.term(p, -1, 0), true);
        check.due("and another", x.term(p, 1, 60), true);
        check.due("61st again", x.term(p, 1, 0), false);
        check.due("first", x.powers(0, p, 0), 60);
        check.due("second", x.coefficient(0, p, 1), 61);
        check.due("last", x.powers(0, p, 59), 1);
        check.due("behind", x.powers(0, p, 60), -1);
    }

    private static void termCoefficientsTooGreat() {
        check.sentence("Promise 5, false when it would not be SOUND: coefficients from -2^26 to 2^26");
        long most = 1L << 26;
        TriangleSets x = Build.with("dd");
        int p = x.polynomial();
        check.due("2^26 + 1", x.term(p, most + 1, 0x1), false);
        check.due("-2^26 - 1", x.term(p, -most - 1, 0x1), false);
        Build.due(check, "0 still", x, 0, p);
        check.due("2^26", x.term(p, most, 0x1), true);
        check.due("-2^26", x.term(p, -most, 0x10), true);
        check.due("1 more", x.term(p, 1, 0x1), false);
        check.due("1 less", x.term(p, -1, 0x10), false);
        Build.due(check, "as before", x, 0, p, -most, 0x10, most, 0x1);
        // What counts is the sum, not v alone.
        check.due("-2^27", x.term(p, -2 * most, 0x1), true);
        check.due("2^27", x.term(p, 2 * most, 0x10), true);
        Build.due(check, "turned", x, 0, p, most, 0x10, -most, 0x1);
        check.due("2^27 + 1", x.term(p, 2 * most + 1, 0x1), false);
        check.due("-2^27 - 1", x.term(p, -2 * most - 1, 0x10), false);
        Build.due(check, "as before", x, 0, p, most, 0x10, -most, 0x1);
    }

    private static void termCoefficientsThatWouldWrap() {
        check.sentence("Promise 5, false when it would not be SOUND: any long as v");
        TriangleSets x = Build.with("d");
        int p = Build.sum(x, -5, 0x1, 5, 0);
        for (long v : new long[] {Long.MIN_VALUE, Long.MAX_VALUE, 1L << 32, -1L << 32, (1L << 32) + 1, 1L << 63}) {
            for (int powers = 0; powers < 3; powers++) {
                check.due("term(" + p + ", " + v + ", " + powers + ")", x.term(p, v, powers), false);
            }
        }
        Build.due(check, "as before", x, 0, p, -5, 0x1, 5, 0);
    }

    private static void termOfZero() {
        check.sentence("Promise 5, 0 times powers is SOUND and is no TERM");
        TriangleSets x = Build.with("dd");
        int p = x.polynomial();
        check.due("term(0, 0, 0x11)", x.term(p, 0, 0x11), true);
        Build.due(check, "0 still", x, 0, p);
        for (int k = 0; k < 60; k++) {
            x.term(p, 1, k);
        }
        check.due("with 60 terms", x.term(p, 0, 60), true);
        check.due("60 still", x.powers(0, p, 0), 59);
    }

    private static void useAndNoMore() {
        check.sentence("Promise 6, A POLYNOMIAL becomes a HYPOTHESIS, or is none any more");
        TriangleSets x = new TriangleSets();
        for (int k = 0; k < 16; k++) {
            x.polynomial();
            check.due("use(" + k + ", true)", x.use(k, true), true);
            check.due("hypotheses", x.told(2), k + 1);
        }
        check.due("use(0, false)", x.use(0, false), true);
        check.due("use(15, false)", x.use(15, false), true);
        check.due("hypotheses", x.told(2), 14);
        check.due("use(0, true) again", x.use(0, true), true);
        check.due("hypotheses", x.told(2), 15);
    }

    private static void useOfNoSuchPolynomial() {
        check.sentence("Promise 6, false when there is no such one");
        TriangleSets x = new TriangleSets();
        check.due("use(0, true)", x.use(0, true), false);
        check.due("use(0, false)", x.use(0, false), false);
        x.polynomial();
        check.due("use(1, true)", x.use(1, true), false);
        for (int polynomial : FAR_OFF) {
            check.due("use(" + polynomial + ", true)", x.use(polynomial, true), false);
            check.due("use(" + polynomial + ", false)", x.use(polynomial, false), false);
        }
        check.due("hypotheses", x.told(2), 0);
    }

    private static void useThatWasSo() {
        check.sentence("Promise 6, false when it was so");
        TriangleSets x = new TriangleSets();
        x.polynomial();
        check.due("use(0, false) of a new one", x.use(0, false), false);
        check.due("use(0, true)", x.use(0, true), true);
        check.due("use(0, true) again", x.use(0, true), false);
        check.due("hypotheses", x.told(2), 1);
        check.due("use(0, false)", x.use(0, false), true);
        check.due("use(0, false) again", x.use(0, false), false);
        check.due("hypotheses", x.told(2), 0);
    }

    private static void pointIsSet() {
        check.sentence("Promise 13, THE POINT's number for a VARIABLE is v");
        TriangleSets x = Build.with("fdfdfdfd");
        int p = Build.sum(x, 1, 0x1, 1, 0x10000000);
        check.due("point(7, 5)", x.point(7, 5), true);
        check.due("value", x.value(0, p), 5);
        check.due("point(0, greatest)", x.point(0, Long.MAX_VALUE), true);
        check.due("value", x.value(0, p), Long.MIN_VALUE + 4);
        check.due("point(0, -5)", x.point(0, -5), true);
        check.due("value", x.value(0, p), 0);
        x.order(0, 7);
        x.point(7, 9);
        check.due("by its number, not its place", x.value(0, p), 4);
    }

    private static void pointAtFirst() {
        check.sentence("Terms, THE POINT has a number for each VARIABLE, 0 at first");
        TriangleSets x = Build.with("fd");
        int p = Build.sum(x, 1, 0x1, 1, 0x10, 7, 0);
        check.due("at 0", x.value(0, p), 7);
        x.point(0, 3);
        check.due("a new variable", x.variable(false), 2);
        x.term(p, 1, 0x100);
        check.due("at 0 too", x.value(0, p), 10);
    }

    private static void pointOfNoSuchVariable() {
        check.sentence("Promise 13, false when there is none such");
        TriangleSets x = new TriangleSets();
        check.due("point(0, 1)", x.point(0, 1), false);
        x.variable(false);
        int p = Build.sum(x, 1, 0x1);
        check.due("point(1, 1)", x.point(1, 1), false);
        for (int variable : FAR_OFF) {
            check.due("point(" + variable + ", 1)", x.point(variable, 1), false);
        }
        check.due("value", x.value(0, p), 0);
        x.variable(false);
        x.term(p, 1, 0x10);
        check.due("of the one that came", x.value(0, p), 0);
    }
}
