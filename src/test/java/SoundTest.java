/** Part 'Terms': SOUND, the order of TERMS, PRIMITIVE, MAIN VARIABLE, CONDITION, STEP, at their edges. */
public final class SoundTest {
    private static final long MOST = 1L << 26;
    private static final Check check = new Check();

    public static void main(String[] args) {
        sixtyTermsOfAStep();
        coefficientsOfAStep();
        powersOfAStep();
        termsWithinAStep();
        coefficientsWithinAStep();
        powersWithinAStep();
        orderOfTerms();
        orderOfTermsFollowsTheOrder();
        primitiveDivides();
        primitiveTurnsSigns();
        primitiveOfOneTerm();
        primitiveOfZero();
        leadingByTheOrder();
        mainVariable();
        conditions();
        degrees();
        initials();
        stepByHand();
        degreesOfAStep();
        fromTheLastToTheFirst();
        tillItIsZero();
        check.end();
    }

    /** x less 1 + a + .. + a^5 is 0, and x (1 + b + .. + b^9): a STEP leaves the 60 TERMS of their product. */
    private static TriangleSets product(boolean oneMore) {
        TriangleSets x = Build.with("ffd");
        int given = Build.hypothesis(x, 1, 0x100);
        for (int k = 0; k < 6; k++) {
            x.term(given, -1, k);
        }
        int times = x.polynomial();
        for (int k = 0; k < 10; k++) {
            x.term(times, 1, 0x100 | k << 4);
        }
        if (oneMore) {
            x.term(times, 1, 0x00F);
        }
        return x;
    }

    private static void sixtyTermsOfAStep() {
        check.sentence("Terms, SOUND when it has 60 TERMS at most: of a STEP (promises 7 and 8)");
        TriangleSets x = product(false);
        x.decompose();
        check.due("60 terms are left", x.prove(1), 0);
        Build.dueTold(check, "60 terms are left", x, 7, 1, 0, 60);
        x = product(true);
        x.decompose();
        check.due("61 would be", x.prove(1), 2);
        Build.dueTold(check, "61 would be", x, 7, 0, 0, 0);
        x = product(false);
        x.use(1, true);
        check.due("60 terms of a condition", x.decompose(), 0);
        Build.dueTold(check, "60 terms of a condition", x, 4, 1, 2, 1, 0, 60);
        x = product(true);
        x.use(1, true);
        check.due("61 would be", x.decompose(), 2);
        Build.dueTold(check, "61 would be", x, 4, 1, 2, 0, 0, 0);
    }

    private static void coefficientsOfAStep() {
        check.sentence("Terms, SOUND with coefficients from -2^26 to 2^26: of a STEP (promises 7 and 8)");
        TriangleSets x = Build.with("fd");
        Build.hypothesis(x, 1, 0x10, -8192, 0x1);
        int most = Build.sum(x, 8192, 0x10);
        int more = Build.sum(x, 8192, 0x10, 1, 0x1);
        int least = Build.sum(x, -8192, 0x10);
        int less = Build.sum(x, -8192, 0x10, -1, 0x1);
        x.decompose();
        check.due("2^26", x.prove(most), 0);
        Build.due(check, "2^26", x, 3, 0, MOST, 0x1);
        check.due("2^26 + 1", x.prove(more), 2);
        Build.due(check, "2^26 + 1", x, 3, 0);
        check.due("-2^26", x.prove(least), 0);
        Build.due(check, "-2^26", x, 3, 0, -MOST, 0x1);
        check.due("-2^26 - 1", x.prove(less), 2);
        Build.due(check, "-2^26 - 1", x, 3, 0);
        // It is asked for before it is made PRIMITIVE: 2^27 a would be a.
        x = Build.with("fd");
        Build.hypothesis(x, 1, 0x10, -MOST, 0x1);
        Build.hypothesis(x, 1, 0x10, MOST, 0x1);
        check.due("2^27 before it is primitive", x.decompose(), 2);
        Build.dueTold(check, "2^27 before it is primitive", x, 3, 0, 1, 2, 0, 0, 0);
        x = Build.with("fd");
        Build.hypothesis(x, 1, 0x10, -MOST / 2, 0x1);
        Build.hypothesis(x, 1, 0x10, MOST / 2, 0x1);
        check.due("2^26 before it is primitive", x.decompose(), 0);
        Build.due(check, "2^26 before it is primitive", x, 4, 0, 1, 0x1);
    }

    private static void powersOfAStep() {
        check.sentence("Terms, SOUND with powers of 15 at most: of a STEP (promises 7 and 8)");
        for (String kinds : new String[] {"fd", "dd"}) {
            TriangleSets x = Build.with(kinds);
            Build.hypothesis(x, 1, 0x10, -1, 0x8);
            int most = Build.sum(x, 1, 0x17);
            int more = Build.sum(x, 1, 0x18);
            x.decompose();
            check.due("15", x.prove(most), 0);
            Build.due(check, "15", x, 3, 0, 1, 0xF);
            check.due("16", x.prove(more), 2);
            Build.dueTold(check, "16", x, 7, 0, 0, 0);
        }
        // A power may grow in a VARIABLE that is higher than the MAIN one, if it is FREE. The INITIAL is
        // -1 here, as the LEADING one is not that of x.
        TriangleSets x = Build.with("df");
        Build.hypothesis(x, 1, 0x01, -1, 0x80);
        int most = Build.sum(x, 1, 0x71);
        int more = Build.sum(x, 1, 0x81);
        x.decompose();
        check.due("15 of a higher one", x.prove(most), 0);
        Build.due(check, "15 of a higher one", x, 3, 0, -1, 0xF0);
        check.due("16 of a higher one", x.prove(more), 2);
        x.use(more, true);
        check.due("16 of a higher one", x.decompose(), 2);
        Build.dueTold(check, "16 of a higher one", x, 3, 0, 1, 2, 0, 0, 0);
        x = Build.with("ffffffdf");
        Build.hypothesis(x, 1, 0x01000000, -1, 0x80000000);
        most = Build.sum(x, 1, 0x71000000);
        more = Build.sum(x, 1, 0x81000000);
        x.decompose();
        check.due("15 of the highest of eight", x.prove(most), 0);
        Build.due(check, "15 of the highest of eight", x, 3, 0, -1, 0xF0000000);
        check.due("16 of the highest of eight", x.prove(more), 2);
    }

    private static void termsWithinAStep() {
        check.sentence("Terms, asked for being SOUND when the STEP is done, not within it: TERMS");
        TriangleSets x = Build.with("dd");
        int wide = Build.hypothesis(x);
        int twice = x.polynomial();
        for (int k = 0; k < 60; k++) {
            x.term(wide, k + 1, k);
            x.term(twice, 2 * k + 2, k);
        }
        check.due("sixty terms", x.decompose(), 1);
        check.due("sixty terms", x.member(0, 2), 60);
        check.due("sixty by sixty cancel", x.prove(twice), 1);
        check.due("steps", x.told(7), 1);
    }

    private static void coefficientsWithinAStep() {
        check.sentence("Terms, asked for being SOUND when the STEP is done, not within it: coefficients");
        TriangleSets x = Build.with("fd");
        Build.hypothesis(x, MOST - 1, 0x10, MOST, 0x1);
        int p = Build.sum(x, MOST - 1, 0x10, MOST, 0x1, 1, 0);
        int q = Build.sum(x, MOST - 1, 0x10, MOST, 0x1, 2, 0);
        x.decompose();
        check.due("nearly 2^52 cancels", x.prove(p), 0);
        Build.due(check, "nearly 2^52 cancels", x, 3, 0, MOST - 1, 0);
        check.due("nearly 2^27 is left", x.prove(q), 2);
    }

    private static void powersWithinAStep() {
        check.sentence("Terms, asked for being SOUND when the STEP is done, not within it: powers");
        TriangleSets x = Build.with("fd");
        Build.hypothesis(x, 1, 0x1F, 1, 0xF, 1, 0x1);
        int p = Build.sum(x, 1, 0x1F, 1, 0xF, 1, 0x1, 1, 0);
        int q = Build.sum(x, 1, 0x1F, 1, 0xF, 2, 0x1);
        x.decompose();
        check.due("a^30 and a^16 cancel", x.prove(p), 0);
        Build.due(check, "a^30 and a^16 cancel", x, 3, 0, 1, 0xF);
        check.due("a^16 is left", x.prove(q), 2);
    }

    private static void orderOfTerms() {
        check.sentence("Terms, the greater power of the highest VARIABLE first; of like ones by the next lower");
        TriangleSets x = Build.with("fdd");
        int p = Build.sum(x, 1, 0, 2, 0x001, 3, 0x00F, 4, 0x010, 5, 0x01F, 6, 0x0F0, 7, 0x100, 8, 0x101, 9, 0xF00);
        Build.due(check, "three", x, 0, p,
                9, 0xF00, 8, 0x101, 7, 0x100, 6, 0x0F0, 5, 0x01F, 4, 0x010, 3, 0x00F, 2, 0x001, 1, 0);
        x = Build.with("ddffffff");
        p = Build.sum(x, 1, 0, 2, 0x0F000033, 3, 0xF0000001, 4, 0xF0000010, 5, 0x70000000, 6, 0x80000000);
        Build.due(check, "eight", x, 0, p,
                4, 0xF0000010, 3, 0xF0000001, 6, 0x80000000, 5, 0x70000000, 2, 0x0F000033, 1, 0);
    }

    private static void orderOfTermsFollowsTheOrder() {
        check.sentence("Terms, the order of TERMS is that of THE ORDER (promise 3)");
        TriangleSets x = Build.with("ddffffff");
        int p = Build.sum(x, 1, 0xF0000001, 2, 0xF0000010, 3, 0x0F000033, 4, 0);
        x.order(0, 7);
        Build.due(check, "7 lowest", x, 0, p, 3, 0x0F000033, 2, 0xF0000010, 1, 0xF0000001, 4, 0);
        x.order(7, 0);
        Build.due(check, "0 highest", x, 0, p, 3, 0x0F000033, 1, 0xF0000001, 2, 0xF0000010, 4, 0);
        // The CONDITION that was told outlives a change of THE ORDER, and its TERMS follow it.
        TriangleSets y = Build.with("ff");
        Build.hypothesis(y, 2, 0x1, -4, 0x10);
        check.due("a condition", y.decompose(), 0);
        Build.due(check, "condition", y, 4, 0, 2, 0x10, -1, 0x1);
        y.order(0, 1);
        Build.due(check, "condition in another order", y, 4, 0, -1, 0x1, 2, 0x10);
        y.decompose();
        Build.due(check, "condition anew", y, 4, 0, 1, 0x1, -2, 0x10);
    }

    private static void primitiveDivides() {
        check.sentence("Terms, PRIMITIVE: divided by the greatest number that divides all");
        dueMember("6, -4, 10", new long[] {6, 0x10, -4, 0x1, 10, 0}, 3, 0x10, -2, 0x1, 5, 0);
        dueMember("12, 18", new long[] {12, 0x10, 18, 0}, 2, 0x10, 3, 0);
        dueMember("7, 5", new long[] {7, 0x10, 5, 0}, 7, 0x10, 5, 0);
        dueMember("2^26, -2^26", new long[] {MOST, 0x10, -MOST, 0}, 1, 0x10, -1, 0);
        dueMember("2^26, 3", new long[] {MOST, 0x10, 3, 0}, MOST, 0x10, 3, 0);
    }

    private static void primitiveTurnsSigns() {
        check.sentence("Terms, PRIMITIVE: all signs are turned if that of the LEADING one is -");
        dueMember("-6, 4, -8", new long[] {-6, 0x20, 4, 0x10, -8, 0x3}, 3, 0x20, -2, 0x10, 4, 0x3);
        dueMember("-1, -1", new long[] {-1, 0x10, -1, 0}, 1, 0x10, 1, 0);
        dueMember("1, -1", new long[] {1, 0x10, -1, 0}, 1, 0x10, -1, 0);
        // LEADING is the first of all, of a FREE VARIABLE too if that is the highest.
        TriangleSets x = Build.with("df");
        Build.hypothesis(x, 3, 0x02, -5, 0x10);
        x.decompose();
        Build.due(check, "by the highest", x, 1, 0, 5, 0x10, -3, 0x02);
    }

    private static void primitiveOfOneTerm() {
        check.sentence("Terms, PRIMITIVE: one TERM alone");
        dueMember("-2^26", new long[] {-MOST, 0x10}, 1, 0x10);
        dueMember("2^26", new long[] {MOST, 0x11}, 1, 0x11);
        dueMember("-1", new long[] {-1, 0x10}, 1, 0x10);
    }

    /** Member 0 of what one HYPOTHESIS, in a FREE and a dependent VARIABLE, is decomposed into. */
    private static void dueMember(String name, long[] given, long... wants) {
        TriangleSets x = Build.with("fd");
        int p = Build.hypothesis(x, given);
        check.due(name + ": decompose", x.decompose(), 1);
        Build.due(check, name, x, 1, 0, wants);
        check.due(name + ": the polynomial is as it was", x.coefficient(0, p, 0), given[0]);
    }

    private static void primitiveOfZero() {
        check.sentence("Terms, PRIMITIVE: 0 stays");
        TriangleSets x = Build.with("fd");
        Build.hypothesis(x, 1, 0x10, -1, 0x1);
        Build.hypothesis(x, -3, 0x10, 3, 0x1);
        Build.hypothesis(x);
        check.due("one that is 0, one that becomes it", x.decompose(), 1);
        Build.dueTold(check, "rows", x, 3, 1, 1, 2, 1, 0, 0, 0);
    }

    private static void leadingByTheOrder() {
        check.sentence("Terms, the first one is LEADING: in THE ORDER of now (promise 3)");
        TriangleSets x = Build.with("dd");
        Build.hypothesis(x, 2, 0x01, -2, 0x10);
        check.due("decompose", x.decompose(), 1);
        Build.due(check, "1 is the higher", x, 1, 0, 1, 0x10, -1, 0x01);
        x.order(0, 1);
        check.due("decompose", x.decompose(), 1);
        Build.due(check, "0 is the higher", x, 1, 0, 1, 0x01, -1, 0x10);
    }

    private static void mainVariable() {
        check.sentence("Terms, MAIN VARIABLE: the highest VARIABLE not FREE in it");
        TriangleSets x = Build.with("ddff");
        Build.hypothesis(x, 1, 0x1012, 1, 0x0100);
        x.decompose();
        check.due("under two free ones", x.member(0, 0), 1);
        check.due("degree", x.member(0, 1), 1);
        x.order(3, 0);
        x.decompose();
        check.due("the other is higher now", x.member(0, 0), 0);
        check.due("degree", x.member(0, 1), 2);
    }

    private static void conditions() {
        check.sentence("Terms, one that is not 0 and has no MAIN VARIABLE is a CONDITION");
        TriangleSets x = Build.with("fdf");
        int p = Build.hypothesis(x, -7, 0);
        check.due("a number", x.decompose(), 0);
        Build.due(check, "a number", x, 4, 0, 1, 0);
        x.term(p, 14, 0x201);
        check.due("free ones alone", x.decompose(), 0);
        Build.due(check, "free ones alone", x, 4, 0, 2, 0x201, -1, 0);
        x.term(p, 1, 0x211);
        check.due("with another one", x.decompose(), 1);
        Build.due(check, "with another one", x, 4, 0);
        x.term(p, -1, 0x211);
        x.term(p, -14, 0x201);
        x.term(p, 7, 0);
        check.due("0 is none", x.decompose(), -1);
    }

    private static void degrees() {
        check.sentence("Terms, DEGREE in a VARIABLE: the greatest power of it, in whichever TERM");
        TriangleSets x = Build.with("ddf");
        // c^3 x + c y + y^2: the LEADING TERM has no y at all, the next one less of it.
        Build.hypothesis(x, 1, 0x301, 1, 0x110, 1, 0x020);
        int more = Build.sum(x, 1, 0x500, 1, 0x030);
        int less = Build.sum(x, 1, 0xF10, 1, 0x00F);
        check.due("decompose", x.decompose(), 1);
        check.due("main variable", x.member(0, 0), 1);
        check.due("degree", x.member(0, 1), 2);
        check.due("3 and 2 are not below", x.prove(more), 0);
        check.due("3 and 2 are not below", x.told(7), 2);
        Build.due(check, "rest", x, 3, 0, 1, 0x500, 1, 0x401, -1, 0x311, 1, 0x210);
        check.due("1 is below", x.prove(less), 0);
        check.due("1 is below", x.told(7), 0);
        Build.due(check, "all is left", x, 3, 0, 1, 0xF10, 1, 0x00F);
    }

    private static void initials() {
        check.sentence("Terms, INITIAL: what stands with the greatest power of its MAIN VARIABLE");
        TriangleSets x = Build.with("fddf");
        Build.hypothesis(x, 2, 0x0311, -3, 0x1300, 5, 0x0300, 7, 0xF2FF, 1, 0);
        x.decompose();
        check.due("main variable", x.member(0, 0), 2);
        check.due("degree", x.member(0, 1), 3);
        // The TERM with the FREE highest one to 15 is LEADING, but not of that DEGREE.
        Build.due(check, "member", x, 1, 0, 7, 0xF2FF, -3, 0x1300, 2, 0x0311, 5, 0x0300, 1, 0);
        Build.due(check, "initial", x, 2, 0, -3, 0x1000, 2, 0x0011, 5, 0);
    }

    private static void stepByHand() {
        check.sentence("Terms, a STEP: f becomes I f - L x^(d - e) b (promise 8)");
        // (2 b + a) x^2 + 3 x - b, so that I has two TERMS; so has L, which is a - 5 at first.
        TriangleSets x = Build.with("ffd");
        Build.hypothesis(x, 2, 0x210, 1, 0x201, 3, 0x100, -1, 0x010);
        int once = Build.sum(x, 1, 0x201, -5, 0x200, 7, 0);
        int twice = Build.sum(x, 1, 0x301, -5, 0x300, 7, 0);
        check.due("decompose", x.decompose(), 1);
        check.due("once", x.prove(once), 0);
        check.due("once", x.told(7), 1);
        Build.due(check, "once", x, 3, 0, -3, 0x101, 15, 0x100, 1, 0x011, 9, 0x010, 7, 0x001);
        // The first leaves (15 - 3 a) x^2 + (a - 5) b x + 14 b + 7 a.
        check.due("twice", x.prove(twice), 0);
        check.due("twice", x.told(7), 2);
        Build.due(check, "twice", x, 3, 0, 2, 0x121, -10, 0x120, 1, 0x112, -5, 0x111, 9, 0x101, -45, 0x100,
                28, 0x020, 25, 0x011, 15, 0x010, 7, 0x002);
    }

    private static void degreesOfAStep() {
        check.sentence("Terms, a STEP: d not below e, times x^(d - e) (promises 8 and 15)");
        TriangleSets x = Build.with("fd");
        Build.hypothesis(x, 1, 0x30, -1, 0x1);
        x.decompose();
        x.point(0, 5);
        x.point(1, 2);
        // The DEGREE, the STEPS, the REMAINDER, the quotient at x = 2.
        long[][] wants = {{0, 0, 0x00, 0}, {2, 0, 0x20, 0}, {3, 1, 0x01, 1}, {4, 1, 0x11, 2}, {5, 1, 0x21, 4},
            {6, 2, 0x02, 13}, {15, 5, 0x05, 4096 + 2560 + 1600 + 1000 + 625}};
        for (long[] want : wants) {
            int p = Build.sum(x, 1, want[0] << 4);
            check.due("x^" + want[0], x.prove(p), 0);
            check.due("steps of x^" + want[0], x.told(7), want[1]);
            Build.due(check, "x^" + want[0], x, 3, 0, 1, want[2]);
            check.due("quotient of x^" + want[0], x.quotient(0), want[3]);
        }
    }

    private static void fromTheLastToTheFirst() {
        check.sentence("Terms, TO REDUCE: for each of these, from the last one to the first");
        TriangleSets x = Build.with("fdd");
        Build.hypothesis(x, 1, 0x010, -1, 0x001);
        Build.hypothesis(x, 1, 0x200, -1, 0x000);
        // The last leaves 0 of x y^2 - x, so that the first has nothing to do.
        int p = Build.sum(x, 1, 0x210, -1, 0x010);
        check.due("decompose", x.decompose(), 1);
        check.due("prove", x.prove(p), 1);
        check.due("steps by the first", x.member(0, 3), 0);
        check.due("steps by the last", x.member(1, 3), 1);
    }

    private static void tillItIsZero() {
        check.sentence("Terms, TO REDUCE: STEPS as long as f is not 0");
        TriangleSets x = Build.with("fdd");
        Build.hypothesis(x, 1, 0x010, -1, 0x001);
        Build.hypothesis(x, 1, 0x100, -1, 0x001);
        int zero = x.polynomial();
        int soon = Build.sum(x, 1, 0x3F0, -1, 0x2F1);
        x.decompose();
        check.due("0", x.prove(zero), 1);
        Build.dueTold(check, "0", x, 7, 0, 0, 0);
        check.due("0 after one", x.prove(soon), 1);
        Build.dueTold(check, "0 after one", x, 7, 1, 0, 0);
        check.due("by the last", x.member(1, 3), 1);
        check.due("by the first", x.member(0, 3), 0);
    }
}
