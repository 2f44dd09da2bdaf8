/** Part 'Terms': SPENT, by STEPS that are not SOUND or too many, by ROUNDS and by ROWS (promises 7, 8 and 10). */
public final class SpentTest {
    private static final Check check = new Check();

    public static void main(String[] args) {
        unsoundStepOfDecompose();
        unsoundStepOfProve();
        unsoundStepsAreNotCounted();
        mostStepsOfOneReducing();
        thousandSteps();
        thousandAndFirstStep();
        stepsAreCountedAnew();
        twelveRounds();
        thirteenthRound();
        fortyRows();
        fortyFirstRow();
        conditionWithFortyRows();
        spentTellsNoCondition();
        check.end();
    }

    private static void unsoundStepOfDecompose() {
        check.sentence("Terms, SPENT: a STEP makes one that is not SOUND; promise 7, 2 when it is SPENT");
        TriangleSets x = Build.with("fd");
        Build.hypothesis(x, 1, 0x1F, 1, 0);
        Build.hypothesis(x, 1, 0x20, 1, 0x1);
        check.due("a power of 16", x.decompose(), 2);
        Build.dueTold(check, "a power of 16", x, 3, 0, 1, 2, 0, 0, 0, 0);
        check.due("no member", x.member(0, 0), -1);
        check.due("no set", x.prove(0), -1);
        check.due("spent again", x.decompose(), 2);
        Build.dueTold(check, "spent again", x, 3, 0, 1, 2, 0, 0, 0, 0);
    }

    /** 8192 x = -a: of x^2 + 1 two STEPS leave a^2 + 2^26; of x^3 + 1 the third one would have 2^39. */
    private static TriangleSets great() {
        TriangleSets x = Build.with("fd");
        Build.hypothesis(x, 8192, 0x10, 1, 0x1);
        Build.sum(x, 1, 0x20, 1, 0);
        Build.sum(x, 1, 0x30, 1, 0);
        check.due("decompose", x.decompose(), 1);
        return x;
    }

    private static void unsoundStepOfProve() {
        check.sentence("Terms, SPENT: a STEP makes one that is not SOUND; promise 8, 2 when it is SPENT");
        TriangleSets x = great();
        x.point(1, 1);
        check.due("2^26", x.prove(1), 0);
        Build.due(check, "2^26", x, 3, 0, 1, 0x2, 1L << 26, 0);
        check.due("2^39", x.prove(2), 2);
        Build.due(check, "no remainder", x, 3, 0);
        check.due("the set stays", x.told(3), 1);
        check.due("2^26 again", x.prove(1), 0);
    }

    private static void unsoundStepsAreNotCounted() {
        check.sentence("Terms, A STEP that makes one that is not SOUND is not counted");
        TriangleSets x = great();
        check.due("prove", x.prove(2), 2);
        check.due("two of three steps", x.told(7), 2);
        x.use(2, true);
        check.due("decompose", x.decompose(), 2);
        check.due("two of three steps", x.told(6), 2);
        x = Build.with("fd");
        Build.hypothesis(x, 8192, 0x10, 1, 0x1);
        Build.hypothesis(x, 1, 0x20, 1, 0);
        check.due("2^26", x.decompose(), 0);
        Build.dueTold(check, "2^26", x, 4, 1, 2, 2, 0, 2, 0);
        x = Build.with("fd");
        Build.hypothesis(x, 8192, 0x10, 1, 0x1);
        Build.hypothesis(x, 1, 0x20, 1, 0, 1, 0x2);
        check.due("2^26 + 1", x.decompose(), 2);
        Build.dueTold(check, "2^26 + 1", x, 3, 0, 1, 2, 1, 0, 0, 0);
    }

    /** A POLYNOMIAL that is 0 where all VARIABLES are 1. */
    private static void one(TriangleSets x, int powers) {
        Build.hypothesis(x, 1, powers, -1, 0);
    }

    /**
     * The 201st STEP of one REDUCING can't be due: each STEP lowers a power of 15 at most, of 8 VARIABLES
     * at most. These are all 120 that there can be.
     */
    private static void mostStepsOfOneReducing() {
        check.sentence("Terms, SPENT: the 201st STEP of one REDUCING, not one before it");
        TriangleSets x = Build.with("dddddddd");
        for (int k = 0; k < 8; k++) {
            one(x, 1 << 4 * k);
        }
        int all = Build.sum(x, 1, -1);
        check.due("decompose", x.decompose(), 1);
        check.due("prove", x.prove(all), 0);
        Build.due(check, "remainder", x, 3, 0, 1, 0);
        check.due("steps", x.told(7), 120);
        for (int k = 0; k < 8; k++) {
            x.point(k, 1);
        }
        for (int k = 0; k < 8; k++) {
            check.due("member(" + k + ", 3)", x.member(k, 3), 15);
            check.due("quotient(" + k + ")", x.quotient(k), 15);
        }
        one(x, -1);
        check.due("decompose", x.decompose(), 1);
        check.due("steps", x.told(6), 120);
    }

    /**
     * Six VARIABLES less 1, then w times the first less 1 for each of the others, then products of the
     * six less 1. A product has as many STEPS in each of two ROUNDS as it has factors, w one and two.
     */
    private static TriangleSets manySteps(int others, int lastProduct) {
        TriangleSets x = Build.with("dddddddd");
        for (int k = 0; k < 6; k++) {
            one(x, 1 << 4 * k);
        }
        for (int k = 6; k < 6 + others; k++) {
            one(x, 1 << 4 * k | 1);
        }
        for (int k = 0; k < 5; k++) {
            one(x, 0xFFFFFF);
        }
        one(x, lastProduct);
        return x;
    }

    private static void thousandSteps() {
        check.sentence("Terms, SPENT: the 1001st STEP of one DECOMPOSING, not the 1000th");
        // Twice 5 * 90 + 47, and twice 1 + 2.
        TriangleSets x = manySteps(2, 0x002FFF);
        check.due("1000 steps", x.decompose(), 1);
        Build.dueTold(check, "1000 steps", x, 3, 8, 2, 16, 1000, 0, 0, 0);
        // A prove() is no DECOMPOSING: it may make STEPS still.
        int p = Build.sum(x, 1, 0xFFFFFFFF);
        check.due("prove", x.prove(p), 0);
        check.due("steps", x.told(7), 120);
    }

    private static void thousandAndFirstStep() {
        check.sentence("Terms, SPENT: the 1001st STEP of one DECOMPOSING");
        // Twice 5 * 90 + 49, and 1 + 2.
        TriangleSets x = manySteps(1, 0x004FFF);
        check.due("1001 steps", x.decompose(), 2);
        Build.dueTold(check, "1001 steps", x, 3, 0, 2, 14, 1000, 0, 0, 0);
        x = manySteps(1, 0x003FFF);
        check.due("999 steps", x.decompose(), 1);
        Build.dueTold(check, "999 steps", x, 3, 7, 2, 14, 999, 0, 0, 0);
    }

    private static void stepsAreCountedAnew() {
        check.sentence("Promise 10, STEPS that the latest decompose() made: counted anew by each");
        TriangleSets x = manySteps(1, 0x004FFF);
        check.due("1001 steps", x.decompose(), 2);
        check.due("use", x.use(11, false), true);
        check.due("fewer steps", x.decompose(), 1);
        Build.dueTold(check, "fewer steps", x, 3, 7, 2, 13, 821);
        check.due("use", x.use(11, true), true);
        check.due("1001 steps", x.decompose(), 2);
        Build.dueTold(check, "1001 steps", x, 3, 0, 2, 14, 1000);
    }

    private static final int[][] TWELVE = {
        {0x00020000, 0x00000000}, {0x00000000, 0x00000000}, {0x00100000, 0x00000000},
        {0x00300040, 0x00000600}, {0x00200000, 0x00100300}, {0x00000020, 0x00000000},
        {0x00062104, 0x20000000}, {0x03000100, 0x03000003}, {0x00200000, 0x00000100},
        {0x30000002, 0x00800000}, {0x00000100, 0x00000000}, {0x00300000, 0x00000100},
        {0x00000000, 0x00000002}, {0x27084104, 0x27080336}, {0x10000000, 0x00000000},
        {0x00033150, 0x03260430},
    };

    private static final int[][] THIRTEEN = {
        {0x03020100, 0x03000003}, {0x00000020, 0x00000000}, {0x00100000, 0x00000000},
        {0x00300042, 0x00000600}, {0x00000000, 0x00000000}, {0x00000200, 0x00000000},
        {0x00062504, 0x20000000}, {0x07084104, 0x27080336}, {0x00200000, 0x00000100},
        {0x00000000, 0x00000002}, {0x00020000, 0x00000000}, {0x10000000, 0x00000000},
        {0x00200100, 0x00000000}, {0x30000002, 0x00800000}, {0x00300000, 0x00000100},
        {0x00033150, 0x03260430},
    };

    /** Differences of two products, found by a search: the one ends in round 12, the other would not. */
    private static TriangleSets differences(int[][] products) {
        TriangleSets x = Build.with("dddddddd");
        for (int[] pair : products) {
            Build.hypothesis(x, 1, pair[0], -1, pair[1]);
        }
        return x;
    }

    private static void twelveRounds() {
        check.sentence("Terms, ROUNDS, at most 12: the 12th may be the last");
        TriangleSets x = differences(TWELVE);
        check.due("12 rounds", x.decompose(), 1);
        Build.dueTold(check, "12 rounds", x, 4, 12, 30, 906, 0, 0, 0);
    }

    private static void thirteenthRound() {
        check.sentence("Terms, ROUNDS, at most 12 (else SPENT)");
        TriangleSets x = differences(THIRTEEN);
        check.due("13 rounds", x.decompose(), 2);
        Build.dueTold(check, "13 rounds", x, 3, 0, 12, 35, 983, 0, 0, 0);
        check.due("no member", x.member(0, 0), -1);
    }

    /**
     * x - 1, x y - 1 and some x y z^k - 1, x being VARIABLE 1. The first round leaves y - 1 and all
     * y z^k - 1, the second all z^k - 1: one of ROWS for x, two for y, three for each k.
     */
    private static TriangleSets unfolding(int most) {
        TriangleSets x = Build.with("fddddd");
        one(x, 0x10);
        one(x, 0x110);
        for (int k = 1; k <= most; k++) {
            one(x, 0x110 | k << 12);
        }
        return x;
    }

    private static void fortyRows() {
        check.sentence("Terms, it would be the 41st of ROWS: SPENT, not the 40th");
        TriangleSets x = unfolding(12);
        one(x, 0x10000);
        check.due("40 rows", x.decompose(), 1);
        Build.dueTold(check, "40 rows", x, 3, 4, 3, 40);
    }

    private static void fortyFirstRow() {
        check.sentence("Terms, it would be the 41st of ROWS: SPENT");
        TriangleSets x = unfolding(12);
        one(x, 0x10000);
        one(x, 0x100000);
        check.due("41 rows", x.decompose(), 2);
        Build.dueTold(check, "41 rows", x, 3, 0, 2, 40);
        check.due("no member", x.member(0, 0), -1);
    }

    private static void conditionWithFortyRows() {
        check.sentence("Terms, a CONDITION is told and does not come to ROWS, so it is no 41st");
        TriangleSets x = unfolding(11);
        // The first round leaves y - a of it, the second, when there are 40 ROWS, a - 1.
        Build.hypothesis(x, 1, 0x110, -1, 0x1);
        one(x, 0x10000);
        one(x, 0x100000);
        check.due("a condition", x.decompose(), 0);
        Build.dueTold(check, "a condition", x, 4, 2, 40);
        Build.due(check, "a condition", x, 4, 0, 1, 0x1, -1, 0);
    }

    private static void spentTellsNoCondition() {
        check.sentence("Promise 10, TERMS of the CONDITION told by the latest decompose(), 0 where there is none");
        TriangleSets x = Build.with("fd");
        int p = Build.hypothesis(x, 3, 0x1);
        check.due("a condition", x.decompose(), 0);
        check.due("a condition", x.told(8), 1);
        x.use(p, false);
        Build.hypothesis(x, 1, 0x1F, 1, 0);
        Build.hypothesis(x, 1, 0x20, 1, 0x1);
        check.due("spent", x.decompose(), 2);
        check.due("none", x.told(8), 0);
        Build.due(check, "none", x, 4, 0);
    }
}
