/** Promise 7: decompose, with what told() says of it. */
public final class DecomposeTest {
    private static final Check check = new Check();

    public static void main(String[] args) {
        nothingToDecompose();
        refusedOnesChangeNothing();
        oneHypothesis();
        primitive();
        twoRounds();
        theLeastComesFirst();
        baseTakesLowDegreesOnly();
        conditionOfAHypothesis();
        conditionMadeByReducing();
        asItWas();
        sameOnesDoNotCome();
        stepsAreAskedForSoundnessWhenDone();
        unsoundSteps();
        fortyRows();
        aThousandSteps();
        twelveRounds();
        check.end();
    }

    private static void nothingToDecompose() {
        TriangleSets x = Build.with("fd");
        check.due("no polynomials", x.decompose(), -1);
        int p = Build.sum(x, 1, 0x10);
        check.due("no hypotheses", x.decompose(), -1);
        x.use(p, true);
        x.term(p, -1, 0x10);
        check.due("only 0", x.decompose(), -1);
        x.term(p, 2, 0x1);
        check.due("a condition", x.decompose(), 0);
        Build.dueTold(check, "condition", x, 3, 0, 0, 1, 0, 0, 1, 0);
        x.use(p, false);
        check.due("condition is told still", x.told(8), 1);
        check.due("none any more", x.decompose(), -1);
        Build.dueTold(check, "told still", x, 3, 0, 0, 1, 0, 0, 1, 0);
        Build.due(check, "condition stays", x, 4, 0, 1, 0x1);
    }

    private static void refusedOnesChangeNothing() {
        TriangleSets x = Build.with("ffdd");
        int p = Build.hypothesis(x, 2, 0x100, -1, 0x1, -1, 0x10);
        int q = Build.hypothesis(x, 1, 0x1000, -1, 0x200);
        int r = Build.sum(x, 1, 0x1000);
        x.decompose();
        x.prove(r);
        Build.dueTold(check, "before", x, 3, 2, 2, 3, 5, 1, 0, 3);
        x.use(p, false);
        x.use(q, false);
        check.due("refused", x.decompose(), -1);
        Build.dueTold(check, "refused", x, 3, 0, 2, 3, 5, 1, 0, 0);
        // A HYPOTHESIS that is 0 is none to decompose, and the next one that is not counts anew.
        int zero = Build.hypothesis(x);
        check.due("refused for 0", x.decompose(), -1);
        Build.dueTold(check, "refused for 0", x, 3, 0, 2, 3, 5, 1, 0, 0);
        x.term(zero, 1, 0x100);
        check.due("not refused", x.decompose(), 1);
        Build.dueTold(check, "not refused", x, 3, 1, 1, 1, 0, 1, 0, 0);
    }

    private static void oneHypothesis() {
        TriangleSets x = Build.with("fd");
        Build.hypothesis(x, 1, 0x20, -1, 0x1);
        Build.hypothesis(x);
        check.due("one", x.decompose(), 1);
        Build.dueTold(check, "one", x, 2, 2, 1, 1, 1, 0, 0, 0, 0);
        Build.due(check, "member", x, 1, 0, 1, 0x20, -1, 0x1);
    }

    private static void primitive() {
        TriangleSets x = Build.with("fd");
        Build.hypothesis(x, -6, 0x20, 4, 0x10, -8, 0x3);
        x.decompose();
        Build.due(check, "divided and turned", x, 1, 0, 3, 0x20, -2, 0x10, 4, 0x3);
        // The FREE one is the higher here, so that its term is LEADING and gives the sign.
        x.order(1, 0);
        x.decompose();
        Build.due(check, "by the highest", x, 1, 0, 4, 0x3, 3, 0x20, -2, 0x10);
        check.due("main variable", x.member(0, 0), 1);
        check.due("degree", x.member(0, 1), 2);
    }

    private static void twoRounds() {
        TriangleSets x = Build.with("ffdd");
        Build.hypothesis(x, 2, 0x100, -1, 0x1, -1, 0x10);
        Build.hypothesis(x, 1, 0x1000, -1, 0x200);
        check.due("two rounds", x.decompose(), 1);
        Build.dueTold(check, "two rounds", x, 3, 2, 2, 3, 5, 0, 0, 0);
        Build.due(check, "first", x, 1, 0, 2, 0x100, -1, 0x10, -1, 0x1);
        Build.due(check, "second", x, 1, 1, 4, 0x1000, -1, 0x20, -2, 0x11, -1, 0x2);
    }

    private static void theLeastComesFirst() {
        // Of like MAIN VARIABLES the lesser DEGREE, whatever the TERMS.
        TriangleSets x = Build.with("fd");
        Build.hypothesis(x, 1, 0x20);
        Build.hypothesis(x, 1, 0x10, 1, 0x1, 1, 0x2);
        check.due("degree", x.decompose(), 0);
        Build.dueTold(check, "degree", x, 4, 1, 2, 2, 0, 3);
        // Of like DEGREES the fewer TERMS: each of these leaves 0 of the other.
        x = Build.with("ffd");
        Build.hypothesis(x, 1, 0x101, 1, 0x100, 1, 0x001, 1, 0);
        Build.hypothesis(x, 1, 0x110, 1, 0x010);
        check.due("terms", x.decompose(), 1);
        Build.due(check, "terms", x, 1, 0, 1, 0x110, 1, 0x010);
        // Of like TERMS that which came before.
        x = Build.with("ffd");
        Build.hypothesis(x, 1, 0x101, 1, 0x001);
        Build.hypothesis(x, 1, 0x110, 1, 0x010);
        check.due("like ones", x.decompose(), 1);
        Build.due(check, "like ones", x, 1, 0, 1, 0x101, 1, 0x001);
        check.due("lower main variable first", lowerMainFirst(), true);
    }

    private static boolean lowerMainFirst() {
        TriangleSets x = Build.with("ddd");
        Build.hypothesis(x, 1, 0x100, 1, 0x1);
        Build.hypothesis(x, 1, 0x010, 1, 0x1);
        Build.hypothesis(x, 1, 0x002, 1, 0x0);
        return x.decompose() == 1 && x.told(3) == 3 && x.told(4) == 1
                && x.member(0, 0) == 0 && x.member(1, 0) == 1 && x.member(2, 0) == 2;
    }

    private static void baseTakesLowDegreesOnly() {
        // y x - 1 is of DEGREE 1 in x, not below that of x - a: it is no member till it is reduced.
        TriangleSets x = Build.with("fdd");
        Build.hypothesis(x, 1, 0x110, -1, 0);
        Build.hypothesis(x, 1, 0x010, -1, 0x1);
        check.due("reduced first", x.decompose(), 1);
        Build.dueTold(check, "reduced first", x, 3, 2, 2, 3, 3, 0, 0, 0);
        Build.due(check, "second", x, 1, 1, 1, 0x101, -1, 0);
        // Below the DEGREE in it, it is taken as it is.
        x = Build.with("fdd");
        Build.hypothesis(x, 1, 0x110, -1, 0);
        Build.hypothesis(x, 1, 0x020, -1, 0x1);
        check.due("as it is", x.decompose(), 1);
        Build.dueTold(check, "as it is", x, 3, 2, 1, 2, 0, 0, 0, 0);
        Build.due(check, "second", x, 1, 1, 1, 0x110, -1, 0);
    }

    private static void conditionOfAHypothesis() {
        TriangleSets x = Build.with("fd");
        Build.hypothesis(x, 1, 0x10);
        Build.hypothesis(x, -3, 0x1, 6, 0);
        Build.hypothesis(x, 5, 0);
        check.due("first condition", x.decompose(), 0);
        Build.due(check, "first condition", x, 4, 0, 1, 0x1, -2, 0);
        Build.dueTold(check, "first condition", x, 3, 0, 0, 3, 0, 0, 2, 0);
        Build.due(check, "no set", x, 1, 0);
    }

    private static void conditionMadeByReducing() {
        TriangleSets x = Build.with("fd");
        Build.hypothesis(x, 1, 0x10, -1, 0x1);
        Build.hypothesis(x, 1, 0x10, -3, 0x1, 2, 0);
        check.due("made", x.decompose(), 0);
        Build.due(check, "made", x, 4, 0, 1, 0x1, -1, 0);
        Build.dueTold(check, "made", x, 3, 0, 1, 2, 1, 0, 2, 0);
        x.use(1, false);
        check.due("without it", x.decompose(), 1);
        Build.due(check, "none is told now", x, 4, 0);
        Build.dueTold(check, "without it", x, 3, 1, 1, 1, 0, 0, 0, 0);
    }

    private static void asItWas() {
        TriangleSets x = Build.with("ffdd");
        Build.hypothesis(x, 2, 0x100, -1, 0x1, -1, 0x10);
        Build.hypothesis(x, 1, 0x1000, -1, 0x200);
        int p = Build.sum(x, 1, 0x1000);
        x.decompose();
        check.due("prove", x.prove(p), 0);
        check.due("remainder", x.told(9), 3);
        check.due("again", x.decompose(), 1);
        Build.dueTold(check, "again", x, 3, 2, 2, 3, 5, 1, 0, 0);
        Build.due(check, "no remainder", x, 3, 0);
        check.due("steps by it stay", x.member(1, 3), 1);
        check.due("quotient stays", x.quotient(1), 1);
    }

    private static void sameOnesDoNotCome() {
        // x^2 leaves x - 1 of both of the last, and that comes once; by it x^2 leaves 1.
        TriangleSets x = Build.with("d");
        Build.hypothesis(x, 1, 0x2);
        Build.hypothesis(x, 1, 0x3, 1, 0x1, -1, 0);
        Build.hypothesis(x, 2, 0x3, -3, 0x1, 3, 0);
        check.due("1 is 0", x.decompose(), 0);
        Build.due(check, "1", x, 4, 0, 1, 0);
        Build.dueTold(check, "same", x, 3, 0, 2, 4, 4, 0, 1, 0);
        // Two like hypotheses are two of ROWS, and the one leaves 0 of the other.
        x = Build.with("d");
        Build.hypothesis(x, 1, 0x2);
        Build.hypothesis(x, -3, 0x2);
        check.due("like ones", x.decompose(), 1);
        Build.dueTold(check, "like ones", x, 3, 1, 1, 2, 1, 0, 0, 0);
    }

    private static void stepsAreAskedForSoundnessWhenDone() {
        TriangleSets x = Build.with("fdd");
        long big = 1L << 26;
        Build.hypothesis(x, big, 0x01F, 1, 0x00F);
        int p = Build.sum(x, big, 0x01F, 1, 0x00F);
        int q = Build.sum(x, big, 0x01F, 1, 0x10F, 1, 0x00F);
        check.due("one", x.decompose(), 1);
        check.due("powers of 30 and coefficients of 2^52 cancel", x.prove(p), 1);
        check.due("they do not", x.prove(q), 2);
        x = Build.with("dd");
        int wide = Build.hypothesis(x);
        int wideToo = Build.sum(x);
        for (int k = 0; k < 60; k++) {
            x.term(wide, k + 1, k);
            x.term(wideToo, 2 * k + 2, k);
        }
        check.due("sixty terms", x.decompose(), 1);
        check.due("sixty terms", x.member(0, 2), 60);
        check.due("sixty by sixty terms cancel", x.prove(wideToo), 1);
    }

    private static void unsoundSteps() {
        TriangleSets x = Build.with("fd");
        Build.hypothesis(x, 1, 0x1F, 1, 0);
        Build.hypothesis(x, 1, 0x20, 1, 0x1);
        check.due("a power of 16", x.decompose(), 2);
        Build.dueTold(check, "a power of 16", x, 3, 0, 1, 2, 0, 0, 0, 0);
        check.due("60 terms", leavesTerms(10), 0);
        check.due("66 terms", leavesTerms(11), 2);
        x = Build.with("fd");
        Build.hypothesis(x, 8192, 0x10, 1, 0x1);
        Build.hypothesis(x, 1, 0x20, 1, 0);
        check.due("2^26", x.decompose(), 0);
        Build.due(check, "2^26", x, 4, 0, 1, 0x2, 1L << 26, 0);
        Build.dueTold(check, "2^26", x, 4, 1, 2, 2, 0, 2, 0);
        x = Build.with("fd");
        Build.hypothesis(x, 8192, 0x10, 1, 0x1);
        Build.hypothesis(x, 1, 0x20, 1, 0, 1, 0x2);
        check.due("2^26 + 1", x.decompose(), 2);
        Build.dueTold(check, "2^26 + 1", x, 3, 0, 1, 2, 1, 0, 0, 0);
    }

    /** Of (1 + b + .. ) x the other, x - (1 + a + .. + a^5), leaves the product of both sums. */
    private static int leavesTerms(int powersOfB) {
        TriangleSets x = Build.with("ffd");
        int divisor = Build.hypothesis(x, 1, 0x100);
        int product = Build.hypothesis(x);
        for (int k = 0; k < 6; k++) {
            x.term(divisor, -1, k);
        }
        for (int k = 0; k < powersOfB; k++) {
            x.term(product, 1, 0x100 | k << 4);
        }
        int answer = x.decompose();
        check.due("terms of the condition", x.told(8), answer == 0 ? 6 * powersOfB : 0);
        return answer;
    }

    private static void fortyRows() {
        TriangleSets x = Build.with("ddddd");
        unfolding(x, 0x1, 0x10);
        Build.hypothesis(x, 1, 0x1000, -1, 0);
        check.due("40 rows", x.decompose(), 1);
        Build.dueTold(check, "40 rows", x, 3, 4, 3, 40);
        Build.hypothesis(x, 1, 0x10000, -1, 0);
        check.due("41 rows", x.decompose(), 2);
        Build.dueTold(check, "41 rows", x, 3, 0, 2, 40);
    }

    private static void aThousandSteps() {
        TriangleSets x = Build.with("ddd");
        unfolding(x, 0xF, 0xF0);
        check.due("1001 steps", x.decompose(), 2);
        Build.dueTold(check, "1001 steps", x, 3, 0, 3, 39, 1000);
    }

    /**
     * x - 1, X y - 1 and twelve X Y z^k - 1, X and Y being powers of x and y. The first round leaves
     * y - 1 and all Y z^k - 1 (27 of ROWS), the second z^k - 1 (39 of ROWS), the third nothing.
     */
    private static void unfolding(TriangleSets x, int powerOfX, int powerOfY) {
        Build.hypothesis(x, 1, 0x1, -1, 0);
        Build.hypothesis(x, 1, powerOfX | 0x10, -1, 0);
        for (int k = 1; k <= 12; k++) {
            Build.hypothesis(x, 1, powerOfX | powerOfY | k << 8, -1, 0);
        }
    }

    private static final int[][] TWELVE = {
        {0x00020000, 0x00000000}, {0x00000000, 0x00000000}, {0x00100000, 0x00000000},
        {0x00300040, 0x00000600}, {0x00200000, 0x00100300}, {0x00000020, 0x00000000},
        {0x00062104, 0x20000000}, {0x03000100, 0x03000003}, {0x00200000, 0x00000100},
        {0x30000002, 0x00800000}, {0x00000100, 0x00000000}, {0x00300000, 0x00000100},
        {0x00000000, 0x00000002}, {0x27084104, 0x27080336}, {0x10000000, 0x00000000},
        {0x00033150, 0x03260430},
    };

    private static final int[][] THIRTEEN = {
        {0x03020100, 0x03000003}, {0x00000020, 0x00000000}, {0x00100000, 0x00000000},
        {0x00300042, 0x00000600}, {0x00000000, 0x00000000}, {0x00000200, 0x00000000},
        {0x00062504, 0x20000000}, {0x07084104, 0x27080336}, {0x00200000, 0x00000100},
        {0x00000000, 0x00000002}, {0x00020000, 0x00000000}, {0x10000000, 0x00000000},
        {0x00200100, 0x00000000}, {0x30000002, 0x00800000}, {0x00300000, 0x00000100},
        {0x00033150, 0x03260430},
    };

    /** Differences of two products, found by a search: the one ends in round 12, the other would not. */
    private static void twelveRounds() {
        TriangleSets x = differences(TWELVE);
        check.due("12 rounds", x.decompose(), 1);
        Build.dueTold(check, "12 rounds", x, 4, 12, 30, 906);
        x = differences(THIRTEEN);
        check.due("13 rounds", x.decompose(), 2);
        Build.dueTold(check, "13 rounds", x, 3, 0, 12, 35, 983);
    }

    private static TriangleSets differences(int[][] products) {
        TriangleSets x = Build.with("dddddddd");
        for (int[] pair : products) {
            Build.hypothesis(x, 1, pair[0], -1, pair[1]);
        }
        return x;
    }
}
