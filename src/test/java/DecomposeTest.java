/** Promise 7: decompose, with ROWS and THE BASE of the part 'Terms' and what told() says of it. */
public final class DecomposeTest {
    private static final Check check = new Check();

    public static void main(String[] args) {
        noneWithoutHypotheses();
        noneWhenAllAreZero();
        oneHypothesis();
        twoRounds();
        asItWas();
        asItWasHasNoRemainder();
        conditionAndNoSet();
        spentAndNoSet();
        noRemainderAfterAny();
        rowsByNumbers();
        rowsWithoutZero();
        firstConditionOfTheHypotheses();
        conditionMadeByReducing();
        conditionEndsTheRound();
        lowerMainVariableFirst();
        lesserDegreeFirst();
        fewerTermsFirst();
        formerOneFirst();
        baseTakesHigherMainVariables();
        baseTakesLowDegreesOnly();
        sameOnesDoNotCome();
        nearlySameOnesCome();
        likeHypothesesAreTwoRows();
        rowsInOrder();
        formerBaseIsReduced();
        remaindersAreMadePrimitive();
        hypothesesStay();
        noneCame();
        triangle();
        check.end();
    }

    private static void noneWithoutHypotheses() {
        check.sentence("Promise 7, NONE when there are no HYPOTHESES");
        TriangleSets x = new TriangleSets();
        check.due("nothing at all", x.decompose(), -1);
        x.variable(false);
        check.due("no polynomials", x.decompose(), -1);
        int p = Build.sum(x, 1, 0x1);
        check.due("no hypotheses", x.decompose(), -1);
        x.use(p, true);
        check.due("one", x.decompose(), 1);
        x.use(p, false);
        check.due("none any more", x.decompose(), -1);
        check.due("no set", x.told(3), 0);
    }

    private static void noneWhenAllAreZero() {
        check.sentence("Promise 7, NONE when there are no HYPOTHESES that are not 0");
        TriangleSets x = Build.with("fd");
        int p = Build.hypothesis(x);
        check.due("one that is 0", x.decompose(), -1);
        Build.hypothesis(x);
        check.due("two that are 0", x.decompose(), -1);
        x.term(p, 1, 0x10);
        check.due("one is not", x.decompose(), 1);
        x.term(p, -1, 0x10);
        check.due("it is again", x.decompose(), -1);
        check.due("no set", x.told(3), 0);
    }

    private static void oneHypothesis() {
        check.sentence("Promise 7, 1 when there is THE SET");
        TriangleSets x = Build.with("fd");
        Build.hypothesis(x, 1, 0x20, -1, 0x1);
        check.due("one", x.decompose(), 1);
        Build.dueTold(check, "one", x, 2, 1, 1, 1, 1, 0, 0, 0, 0);
        Build.due(check, "member", x, 1, 0, 1, 0x20, -1, 0x1);
    }

    private static TriangleSets unfolded() {
        TriangleSets x = Build.with("ffdd");
        Build.hypothesis(x, 2, 0x100, -1, 0x1, -1, 0x10);
        Build.hypothesis(x, 1, 0x1000, -1, 0x200);
        check.due("decompose", x.decompose(), 1);
        return x;
    }

    private static void twoRounds() {
        check.sentence("Promise 7, 1 when there is THE SET: after two ROUNDS");
        TriangleSets x = unfolded();
        Build.dueTold(check, "two rounds", x, 3, 2, 2, 3, 5, 0, 0, 0);
        Build.due(check, "first", x, 1, 0, 2, 0x100, -1, 0x10, -1, 0x1);
        Build.due(check, "second", x, 1, 1, 4, 0x1000, -1, 0x20, -2, 0x11, -1, 0x2);
    }

    private static void asItWas() {
        check.sentence("Promise 7, 1 when there is THE SET (also: it is as it was)");
        TriangleSets x = unfolded();
        int p = Build.sum(x, 1, 0x1000);
        check.due("prove", x.prove(p), 0);
        for (int k = 0; k < 3; k++) {
            check.due("again", x.decompose(), 1);
            Build.dueTold(check, "again", x, 3, 2, 2, 3, 5, 1, 0, 0);
        }
        Build.due(check, "second", x, 1, 1, 4, 0x1000, -1, 0x20, -2, 0x11, -1, 0x2);
        check.due("steps by it stay", x.member(1, 3), 1);
        check.due("quotient stays", x.quotient(1), 1);
    }

    private static void asItWasHasNoRemainder() {
        check.sentence("Promise 7, the REMAINDER is none: when THE SET is as it was");
        TriangleSets x = unfolded();
        int p = Build.sum(x, 1, 0x1000);
        check.due("prove", x.prove(p), 0);
        check.due("remainder", x.told(9), 3);
        check.due("again", x.decompose(), 1);
        check.due("none", x.told(9), 0);
        Build.due(check, "none", x, 3, 0);
        check.due("prove", x.prove(p), 0);
        check.due("remainder", x.told(9), 3);
    }

    private static void conditionAndNoSet() {
        check.sentence("Promise 7, 0 when a CONDITION is told (THE SET is none then)");
        TriangleSets x = unfolded();
        int p = Build.hypothesis(x, 2, 0x11);
        check.due("condition", x.decompose(), 0);
        Build.dueTold(check, "condition", x, 3, 0, 0, 3, 0, 0, 1, 0);
        Build.due(check, "condition", x, 4, 0, 1, 0x11);
        Build.due(check, "no member", x, 1, 0);
        check.due("no member", x.member(0, 0), -1);
        check.due("no set", x.prove(p), -1);
        check.due("again", x.decompose(), 0);
        Build.due(check, "again", x, 4, 0, 1, 0x11);
        x.use(p, false);
        check.due("without it", x.decompose(), 1);
        Build.due(check, "none is told", x, 4, 0);
        Build.dueTold(check, "without it", x, 3, 2, 2, 3, 5, 0, 0, 0);
    }

    private static void spentAndNoSet() {
        check.sentence("Promise 7, 2 when it is SPENT (THE SET is none then)");
        TriangleSets x = unfolded();
        int p = Build.hypothesis(x, 1, 0x10F, 1, 0);
        // By 2 x - a - b it would have a power of 16.
        check.due("spent", x.decompose(), 2);
        Build.dueTold(check, "spent", x, 3, 0);
        Build.due(check, "no member", x, 1, 0);
        check.due("no set", x.prove(p), -1);
        x.use(p, false);
        check.due("without it", x.decompose(), 1);
        Build.dueTold(check, "without it", x, 3, 2, 2, 3, 5, 0, 0, 0);
    }

    private static void noRemainderAfterAny() {
        check.sentence("Promise 7, the REMAINDER is none: after each answer");
        long[][] more = {{1, 0x101, -1, 0}, {1, 0x1}, {1, 0x10F, 1, 0}};
        int[] answers = {0, 0, 2};
        for (int k = 0; k < more.length; k++) {
            TriangleSets x = unfolded();
            int p = Build.sum(x, 1, 0x1000);
            x.prove(p);
            check.due("remainder", x.told(9), 3);
            Build.hypothesis(x, more[k]);
            check.due("decompose " + k, x.decompose(), answers[k]);
            check.due("none after " + k, x.told(9), 0);
            Build.due(check, "none after " + k, x, 3, 0);
            check.due("none after " + k, x.value(3, 0), 0);
        }
    }

    private static void rowsByNumbers() {
        check.sentence("Terms, ROWS are the HYPOTHESES by numbers, not as they were told to be");
        TriangleSets x = Build.with("ffd");
        int first = Build.sum(x, 1, 0x101, 1, 0x001);
        int second = Build.sum(x, 1, 0x110, 1, 0x010);
        x.use(second, true);
        x.use(first, true);
        check.due("decompose", x.decompose(), 1);
        Build.due(check, "the first of like ones", x, 1, 0, 1, 0x101, 1, 0x001);
        x.use(first, false);
        x.use(first, true);
        check.due("decompose", x.decompose(), 1);
        Build.due(check, "the first still", x, 1, 0, 1, 0x101, 1, 0x001);
    }

    private static void rowsWithoutZero() {
        check.sentence("Terms, ROWS are the HYPOTHESES that are not 0");
        TriangleSets x = Build.with("fd");
        Build.hypothesis(x);
        Build.hypothesis(x, 1, 0x20, -1, 0x1);
        Build.hypothesis(x);
        Build.sum(x, 1, 0x10);
        check.due("decompose", x.decompose(), 1);
        check.due("hypotheses", x.told(2), 3);
        Build.dueTold(check, "rows", x, 3, 1, 1, 1, 0);
    }

    private static void firstConditionOfTheHypotheses() {
        check.sentence("Terms, if one is a CONDITION, the first such is told, and that is all");
        TriangleSets x = Build.with("fd");
        Build.hypothesis(x, 1, 0x10);
        Build.hypothesis(x, -3, 0x1, 6, 0);
        Build.hypothesis(x, 5, 0);
        Build.hypothesis(x, 1, 0x20, 1, 0);
        check.due("first condition", x.decompose(), 0);
        Build.due(check, "first condition", x, 4, 0, 1, 0x1, -2, 0);
        Build.dueTold(check, "first condition", x, 3, 0, 0, 4, 0, 0, 2, 0);
        x.use(1, false);
        check.due("second condition", x.decompose(), 0);
        Build.due(check, "second condition", x, 4, 0, 1, 0);
        Build.dueTold(check, "second condition", x, 3, 0, 0, 3, 0, 0, 1, 0);
    }

    private static void conditionMadeByReducing() {
        check.sentence("Terms, a CONDITION: it is told (and does not come to ROWS)");
        TriangleSets x = Build.with("fd");
        Build.hypothesis(x, 1, 0x10, -1, 0x1);
        Build.hypothesis(x, 1, 0x10, -3, 0x1, 2, 0);
        check.due("made", x.decompose(), 0);
        Build.due(check, "made", x, 4, 0, 1, 0x1, -1, 0);
        Build.dueTold(check, "made", x, 3, 0, 1, 2, 1, 0, 2, 0);
        x.use(1, false);
        check.due("without it", x.decompose(), 1);
        Build.due(check, "none is told now", x, 4, 0);
        Build.dueTold(check, "without it", x, 3, 1, 1, 1, 0, 0, 0, 0);
    }

    private static void conditionEndsTheRound() {
        check.sentence("Terms, a CONDITION: it is told, and that is all");
        TriangleSets x = Build.with("fdd");
        Build.hypothesis(x, 1, 0x010, -1, 0x001);
        Build.hypothesis(x, 1, 0x110, -1, 0);
        Build.hypothesis(x, 1, 0x010, -2, 0);
        Build.hypothesis(x, 1, 0x010, -3, 0);
        Build.hypothesis(x, 1, 0x210, -1, 0);
        check.due("the first made", x.decompose(), 0);
        Build.due(check, "the first made", x, 4, 0, 1, 0x001, -2, 0);
        // a y - 1 came before it, a y^2 - 1 does not any more.
        Build.dueTold(check, "the first made", x, 3, 0, 1, 6, 2, 0, 2, 0);
    }

    private static void lowerMainVariableFirst() {
        check.sentence("Terms, of two the lesser: whose MAIN VARIABLE is lower");
        TriangleSets x = Build.with("ddd");
        Build.hypothesis(x, 1, 0x100);
        Build.hypothesis(x, 1, 0x010, 1, 0x1);
        Build.hypothesis(x, 1, 0x002, 1, 0x1, 1, 0x0);
        check.due("decompose", x.decompose(), 1);
        Build.dueTold(check, "decompose", x, 3, 3, 1, 3, 0);
        for (int i = 0; i < 3; i++) {
            check.due("member(" + i + ", 0)", x.member(i, 0), i);
        }
        x.order(0, 2);
        check.due("decompose", x.decompose(), 1);
        check.due("lowest in the order", x.member(0, 0), 2);
        check.due("next", x.member(1, 0), 0);
        check.due("highest", x.member(2, 0), 1);
    }

    private static void lesserDegreeFirst() {
        check.sentence("Terms, of like MAIN VARIABLES the lesser: whose DEGREE in it is less");
        TriangleSets x = Build.with("fd");
        Build.hypothesis(x, 1, 0x20);
        Build.hypothesis(x, 1, 0x10, 1, 0x1, 1, 0x2);
        // x^2 is REDUCED by the other, which has more TERMS and came later.
        check.due("decompose", x.decompose(), 0);
        Build.dueTold(check, "decompose", x, 4, 1, 2, 2, 0, 3);
        Build.due(check, "condition", x, 4, 0, 1, 0x4, 2, 0x3, 1, 0x2);
    }

    private static void fewerTermsFirst() {
        check.sentence("Terms, of like DEGREES the lesser: that has fewer TERMS");
        TriangleSets x = Build.with("ffd");
        Build.hypothesis(x, 1, 0x101, 1, 0x100, 1, 0x001, 1, 0);
        Build.hypothesis(x, 1, 0x110, 1, 0x010);
        check.due("decompose", x.decompose(), 1);
        Build.due(check, "member", x, 1, 0, 1, 0x110, 1, 0x010);
    }

    private static void formerOneFirst() {
        check.sentence("Terms, of like numbers of TERMS the lesser: that came to ROWS before");
        TriangleSets x = Build.with("ffd");
        Build.hypothesis(x, 1, 0x101, 1, 0x001);
        Build.hypothesis(x, 1, 0x110, 1, 0x010);
        check.due("decompose", x.decompose(), 1);
        Build.due(check, "member", x, 1, 0, 1, 0x101, 1, 0x001);
    }

    private static void baseTakesHigherMainVariables() {
        check.sentence("Terms, THE BASE: those ROWS whose MAIN VARIABLE is higher than that of the latest one taken");
        TriangleSets x = Build.with("fdd");
        Build.hypothesis(x, 1, 0x020, -1, 0x001);
        Build.hypothesis(x, 1, 0x030, -1, 0x011);
        Build.hypothesis(x, 1, 0x200, -1, 0x001);
        Build.hypothesis(x, 1, 0x300, -1, 0x101);
        check.due("decompose", x.decompose(), 1);
        // Each of the others is 0 by one STEP.
        Build.dueTold(check, "decompose", x, 3, 2, 1, 4, 2, 0, 0, 0);
        check.due("degree of the first", x.member(0, 1), 2);
        check.due("degree of the second", x.member(1, 1), 2);
    }

    private static void baseTakesLowDegreesOnly() {
        check.sentence("Terms, THE BASE: whose DEGREE in the MAIN VARIABLE of each that was taken is below that one's");
        // y x - 1 is of DEGREE 1 in x, not below that of x - a: it is no member till it is REDUCED.
        TriangleSets x = Build.with("fdd");
        Build.hypothesis(x, 1, 0x110, -1, 0);
        Build.hypothesis(x, 1, 0x010, -1, 0x1);
        check.due("reduced first", x.decompose(), 1);
        Build.dueTold(check, "reduced first", x, 3, 2, 2, 3, 3, 0, 0, 0);
        Build.due(check, "second", x, 1, 1, 1, 0x101, -1, 0);
        // Below the DEGREE in it, it is taken as it is.
        x = Build.with("fdd");
        Build.hypothesis(x, 1, 0x110, -1, 0);
        Build.hypothesis(x, 1, 0x020, -1, 0x1);
        check.due("as it is", x.decompose(), 1);
        Build.dueTold(check, "as it is", x, 3, 2, 1, 2, 0, 0, 0, 0);
        Build.due(check, "second", x, 1, 1, 1, 0x110, -1, 0);
        // Of each that was taken, not of the latest alone.
        x = Build.with("fddd");
        Build.hypothesis(x, 1, 0x0010, -1, 0x1);
        Build.hypothesis(x, 1, 0x0100, -1, 0x1);
        Build.hypothesis(x, 1, 0x1010, -1, 0);
        check.due("by the first", x.decompose(), 1);
        Build.dueTold(check, "by the first", x, 3, 3, 2, 4, 3, 0, 0, 0);
        Build.due(check, "third", x, 1, 2, 1, 0x1001, -1, 0);
    }

    /** What is left is less than THE BASE, so it can only be the same as one that came in this ROUND. */
    private static void sameOnesDoNotCome() {
        check.sentence("Terms, nor the same as one of ROWS (which these are then)");
        // x^2 leaves x - 1 of the second and 3 - 3 x of the third, and that comes once; by it x^2 leaves 1.
        TriangleSets x = Build.with("d");
        Build.hypothesis(x, 1, 0x2);
        Build.hypothesis(x, 1, 0x3, 1, 0x1, -1, 0);
        Build.hypothesis(x, 2, 0x3, -3, 0x1, 3, 0);
        check.due("1 is 0", x.decompose(), 0);
        Build.due(check, "1", x, 4, 0, 1, 0);
        Build.dueTold(check, "same", x, 3, 0, 2, 4, 4, 0, 1, 0);
    }

    private static void nearlySameOnesCome() {
        check.sentence("Terms, the same: in all TERMS, not in the first ones alone");
        TriangleSets x = Build.with("dd");
        Build.hypothesis(x, 1, 0x01, -1, 0);
        Build.hypothesis(x, 1, 0x10, 1, 0x02);
        Build.hypothesis(x, 1, 0x11);
        // y + 1 and y come, and y, of fewer TERMS, leaves x^2 of y + x^2 in the next ROUND, and that 1.
        check.due("fewer", x.decompose(), 0);
        Build.dueTold(check, "fewer", x, 4, 2, 5, 6, 0, 1, 0);
        // The other way round: y comes, then y + 1.
        x = Build.with("dd");
        Build.hypothesis(x, 1, 0x01, -1, 0);
        Build.hypothesis(x, 1, 0x11);
        Build.hypothesis(x, 1, 0x10, 1, 0x02);
        check.due("more", x.decompose(), 0);
        Build.dueTold(check, "more", x, 4, 2, 5, 7, 0, 1, 0);
        // y + 1 and y + 2, of like powers.
        x = Build.with("dd");
        Build.hypothesis(x, 1, 0x01, -1, 0);
        Build.hypothesis(x, 1, 0x11, 1, 0);
        Build.hypothesis(x, 1, 0x11, 2, 0);
        check.due("another coefficient", x.decompose(), 0);
        check.due("another coefficient", x.told(5), 5);
        // y + a and y + b, of like coefficients.
        x = Build.with("ffdd");
        Build.hypothesis(x, 1, 0x0100, -1, 0);
        Build.hypothesis(x, 1, 0x1100, 1, 0x01);
        Build.hypothesis(x, 1, 0x1100, 1, 0x10);
        check.due("other powers", x.decompose(), 0);
        check.due("other powers", x.told(5), 5);
        Build.due(check, "other powers", x, 4, 0, 1, 0x10, -1, 0x01);
    }

    private static void likeHypothesesAreTwoRows() {
        check.sentence("Terms, ROWS are the HYPOTHESES: two like ones are two of ROWS");
        TriangleSets x = Build.with("d");
        Build.hypothesis(x, 1, 0x2);
        Build.hypothesis(x, -3, 0x2);
        check.due("like ones", x.decompose(), 1);
        Build.dueTold(check, "like ones", x, 3, 1, 1, 2, 1, 0, 0, 0);
    }

    private static void rowsInOrder() {
        check.sentence("Terms, Each of ROWS that is not in THE BASE, in order, is REDUCED by THE BASE");
        // x is THE BASE; the first of the others leaves a, and the one behind them a^2.
        TriangleSets x = Build.with("fd");
        Build.hypothesis(x, 1, 0x10, 1, 0x1);
        Build.hypothesis(x, 1, 0x10);
        Build.hypothesis(x, 1, 0x10, 1, 0x2);
        check.due("a", x.decompose(), 0);
        Build.due(check, "a", x, 4, 0, 1, 0x1);
        Build.dueTold(check, "a", x, 4, 1, 3, 1);
        x.use(0, false);
        check.due("a^2", x.decompose(), 0);
        Build.due(check, "a^2", x, 4, 0, 1, 0x2);
        Build.dueTold(check, "a^2", x, 4, 1, 2, 1);
    }

    private static void formerBaseIsReduced() {
        check.sentence("Terms, THE BASE of each ROUND: one that was in that of the ROUND before is REDUCED, too");
        // x^2 - a leaves (a - 1) x of x^3 - x, and that leaves a^2 - a of x^2 - a.
        TriangleSets x = Build.with("fd");
        Build.hypothesis(x, 1, 0x20, -1, 0x1);
        Build.hypothesis(x, 1, 0x30, -1, 0x10);
        check.due("condition", x.decompose(), 0);
        Build.due(check, "condition", x, 4, 0, 1, 0x2, -1, 0x1);
        Build.dueTold(check, "condition", x, 3, 0, 2, 3, 2, 0, 2, 0);
    }

    private static void remaindersAreMadePrimitive() {
        check.sentence("Terms, is REDUCED by THE BASE, and the REMAINDER made PRIMITIVE");
        // x - 2 leaves -6 y + 12 of -3 x y + 12.
        TriangleSets x = Build.with("fdd");
        Build.hypothesis(x, 1, 0x010, -2, 0);
        Build.hypothesis(x, -3, 0x110, 12, 0);
        check.due("decompose", x.decompose(), 1);
        Build.due(check, "member", x, 1, 1, 1, 0x100, -2, 0);
        Build.dueTold(check, "decompose", x, 3, 2, 2, 3, 3, 0, 0, 0);
    }

    private static void hypothesesStay() {
        check.sentence("Terms, ROWS are the HYPOTHESES, each made PRIMITIVE: these themselves stay (promise 11)");
        TriangleSets x = Build.with("fdd");
        Build.hypothesis(x, -6, 0x020, 4, 0x001);
        Build.hypothesis(x, 10, 0x120, -5, 0x000);
        check.due("decompose", x.decompose(), 1);
        Build.due(check, "member 0", x, 1, 0, 3, 0x020, -2, 0x001);
        Build.due(check, "member 1", x, 1, 1, 4, 0x101, -3, 0x000);
        Build.due(check, "polynomial 0", x, 0, 0, -6, 0x020, 4, 0x001);
        Build.due(check, "polynomial 1", x, 0, 1, 10, 0x120, -5, 0x000);
        check.due("hypotheses", x.told(2), 2);
        check.due("polynomials", x.told(1), 2);
    }

    private static void noneCame() {
        check.sentence("Terms, When none came, THE BASE is THE SET: that ROUND counts (promise 10)");
        TriangleSets x = Build.with("dd");
        Build.hypothesis(x, 1, 0x01, -1, 0);
        Build.hypothesis(x, 1, 0x10, -1, 0);
        check.due("at once", x.decompose(), 1);
        check.due("at once", x.told(4), 1);
        Build.hypothesis(x, 1, 0x11, -1, 0);
        check.due("one of ROWS left 0", x.decompose(), 1);
        check.due("one of ROWS left 0", x.told(4), 1);
        check.due("members", x.told(3), 2);
    }

    private static void triangle() {
        check.sentence("What it is, brought into a triangle, one dependent variable more in each");
        // Three planes through one point; each of them has all of x, y and z.
        TriangleSets x = Build.with("fddd");
        Build.hypothesis(x, 1, 0x1000, 1, 0x0100, 1, 0x0010, -6, 0);
        Build.hypothesis(x, 1, 0x1000, 2, 0x0100, 3, 0x0010, -14, 0);
        Build.hypothesis(x, 1, 0x1000, 4, 0x0100, 9, 0x0010, -36, 0);
        check.due("decompose", x.decompose(), 1);
        check.due("members", x.told(3), 3);
        for (int i = 0; i < 3; i++) {
            check.due("main variable of " + i, x.member(i, 0), i + 1);
            check.due("degree of " + i, x.member(i, 1), 1);
            for (int t = 0; t < x.member(i, 2); t++) {
                check.due("nothing higher in " + i, x.powers(1, i, t) >>> 4 * (i + 2), 0);
            }
        }
        int[] at = {3, 2, 1};
        for (int k = 0; k < 3; k++) {
            int powers = 1 << 4 * (k + 1);
            check.due("VARIABLE " + (k + 1), x.prove(Build.sum(x, 1, powers, -at[k], 0)), 1);
            check.due("not so", x.prove(Build.sum(x, 1, powers, -at[k] - 1, 0)), 0);
        }
    }
}
