/** All limits at once: 8 VARIABLES, 16 POLYNOMIALS and 60 TERMS are places that every call must go over. */
public final class FullTest {
    private static final Check check = new Check();

    public static void main(String[] args) {
        sixtyTermsInAnyOrder();
        mostProductsOfAStep();
        memberOfSixtyTerms();
        initialOfSixtyTerms();
        orderOfSixtyTerms();
        conditionOfSixtyTerms();
        remainderOfSixtyTerms();
        quotientOfSixtyTerms();
        sixteenPolynomials();
        sixteenHypotheses();
        eightVariables();
        check.end();
    }

    /** 60 TERMS, 2, 4, .., 120 times the powers of a and b from 0 to 59, each times the powers given. */
    private static int sixty(TriangleSets x, int times) {
        int made = x.polynomial();
        for (int k = 0; k < 60; k++) {
            check.due("term " + k, x.term(made, 2 * k + 2, times | k), true);
        }
        return made;
    }

    private static void sixtyTermsInAnyOrder() {
        check.sentence("Promise 5, 60 TERMS come and go in any order");
        // 1 goes upwards, 59 downwards, 37 and 23 to and fro: each goes through all 60.
        for (int stride : new int[] {1, 59, 37, 23}) {
            TriangleSets x = Build.with("ff");
            int p = x.polynomial();
            for (int k = 0; k < 60; k++) {
                int powers = (k + 1) * stride % 60;
                check.due("term " + powers, x.term(p, powers + 1, powers), true);
            }
            check.due("61st", x.term(p, 1, 60), false);
            for (int t = 0; t < 60; t++) {
                check.due("term " + t, x.coefficient(0, p, t), 60 - t);
                check.due("term " + t, x.powers(0, p, t), 59 - t);
            }
            for (int k = 0; k < 60; k++) {
                int powers = (k + 7) * stride % 60;
                check.due("away " + powers, x.term(p, -powers - 1, powers), true);
            }
            Build.due(check, "0 again", x, 0, p);
        }
    }

    /** 60 TERMS of the one by 59 of the other have no powers in common: 3540 TERMS within one STEP. */
    private static void mostProductsOfAStep() {
        check.sentence("Terms, SPENT: a STEP makes one that is not SOUND, by 3540 TERMS");
        for (boolean higher : new boolean[] {false, true}) {
            TriangleSets x = Build.with("ffffd");
            int initial = higher ? 8 : 0;
            int rest = higher ? 0 : 8;
            int wide = x.polynomial();
            int tall = Build.sum(x, 1, 0x10000);
            for (int k = 0; k < 60; k++) {
                x.term(wide, 1, 0x10000 | k << initial);
            }
            for (int k = 1; k < 60; k++) {
                x.term(tall, 1, k << rest);
            }
            x.use(wide, true);
            check.due("decompose", x.decompose(), 1);
            check.due("initial of 60 terms", x.prove(tall), 2);
            check.due("no step", x.told(7), 0);
            x.use(wide, false);
            x.use(tall, true);
            check.due("decompose", x.decompose(), 1);
            check.due("lead of 60 terms", x.prove(wide), 2);
            check.due("no step", x.told(7), 0);
            check.due("all of it cancels", x.prove(tall), 1);
        }
    }

    private static void memberOfSixtyTerms() {
        check.sentence("Terms, 60 TERMS at most: a member of THE SET has all 60 (promises 7, 9, 11 and 12)");
        TriangleSets x = Build.with("ffd");
        int p = sixty(x, 0x000);
        x.term(p, -2, 0x000);
        x.term(p, -2, 0x100);
        x.use(p, true);
        check.due("decompose", x.decompose(), 1);
        check.due("terms", x.member(0, 2), 60);
        check.due("first", x.powers(1, 0, 0), 0x100);
        check.due("first", x.coefficient(1, 0, 0), 1);
        for (int t = 1; t < 60; t++) {
            check.due("member " + t, x.coefficient(1, 0, t), t - 61);
            check.due("member " + t, x.powers(1, 0, t), 60 - t);
        }
        check.due("behind", x.coefficient(1, 0, 60), 0);
        check.due("behind", x.powers(1, 0, 60), -1);
        Build.due(check, "initial", x, 2, 0, 1, 0);
    }

    private static void initialOfSixtyTerms() {
        check.sentence("Terms, 60 TERMS at most: an INITIAL has all 60 (promises 11, 12 and 14)");
        TriangleSets x = Build.with("ffd");
        x.use(sixty(x, 0x200), true);
        check.due("decompose", x.decompose(), 1);
        for (int t = 0; t < 60; t++) {
            check.due("initial " + t, x.coefficient(2, 0, t), 60 - t);
            check.due("initial " + t, x.powers(2, 0, t), 59 - t);
        }
        check.due("behind", x.coefficient(2, 0, 60), 0);
        check.due("behind", x.powers(2, 0, 60), -1);
        x.point(0, 1);
        x.point(1, 1);
        check.due("value", x.value(2, 0), 1830);
    }

    private static void orderOfSixtyTerms() {
        check.sentence("Promise 3, THE ORDER changes for POLYNOMIALS of 60 TERMS");
        TriangleSets x = Build.with("ffd");
        int p = sixty(x, 0x300);
        check.due("order", x.order(0, 1), true);
        // The TERMS with a^15 are the first now: b^2, b, 1 of them, as 63 is none of the 60.
        int t = 0;
        for (int a = 15; a >= 0; a--) {
            for (int b = 3; b >= 0; b--) {
                int k = b << 4 | a;
                if (k < 60) {
                    check.due("term " + t, x.coefficient(0, p, t), 2 * k + 2);
                    check.due("term " + t, x.powers(0, p, t), 0x300 | k);
                    t++;
                }
            }
        }
        check.due("terms", t, 60);
        check.due("behind", x.powers(0, p, 60), -1);
    }

    private static void conditionOfSixtyTerms() {
        check.sentence("Terms, 60 TERMS at most: a CONDITION has all 60 (promises 7, 10 to 12 and 14)");
        TriangleSets x = Build.with("ff");
        x.use(sixty(x, 0), true);
        check.due("decompose", x.decompose(), 0);
        check.due("terms", x.told(8), 60);
        x.order(1, 0);
        check.due("first", x.powers(4, 0, 0), 0x2F);
        check.due("first", x.coefficient(4, 0, 0), 48);
        check.due("last", x.powers(4, 0, 59), 0);
        check.due("last", x.coefficient(4, 0, 59), 1);
        check.due("behind", x.powers(4, 0, 60), -1);
        x.point(0, 1);
        x.point(1, 1);
        check.due("value", x.value(4, 0), 1830);
    }

    private static void remainderOfSixtyTerms() {
        check.sentence("Terms, 60 TERMS at most: a REMAINDER has all 60 (promises 8, 10 to 12 and 14)");
        TriangleSets x = Build.with("ffd");
        Build.hypothesis(x, 1, 0x100, -1, 0);
        int p = sixty(x, 0x100);
        check.due("decompose", x.decompose(), 1);
        check.due("prove", x.prove(p), 0);
        check.due("terms", x.told(9), 60);
        check.due("first", x.powers(3, 0, 0), 59);
        check.due("first", x.coefficient(3, 0, 0), 120);
        check.due("last", x.coefficient(3, 0, 59), 2);
        check.due("behind", x.powers(3, 0, 60), -1);
        x.point(0, 1);
        x.point(1, 1);
        check.due("value", x.value(3, 0), 3660);
    }

    private static void quotientOfSixtyTerms() {
        check.sentence("Promise 15, L and I of 60 TERMS");
        TriangleSets x = Build.with("ffd");
        x.use(sixty(x, 0x100), true);
        int p = sixty(x, 0x200);
        int single = Build.sum(x, 1, 0x300);
        check.due("decompose", x.decompose(), 1);
        check.due("prove", x.prove(p), 1);
        x.point(0, 1);
        x.point(1, 1);
        x.point(2, 7);
        check.due("steps", x.told(7), 1);
        check.due("L x", x.quotient(0), 3660 * 7);
        // I x^3 less x^2 times I x is 0.
        check.due("prove", x.prove(single), 1);
        check.due("steps", x.told(7), 1);
        check.due("x^2", x.quotient(0), 49);
    }

    private static void sixteenPolynomials() {
        check.sentence("Promise 7, NONE when there are no HYPOTHESES that are not 0: with 16 POLYNOMIALS");
        TriangleSets x = Build.with("d");
        for (int k = 0; k < 16; k++) {
            Build.sum(x, k + 1, 0x1);
        }
        check.due("no hypotheses", x.decompose(), -1);
        x.use(15, true);
        check.due("the last one", x.decompose(), 1);
        check.due("rows", x.told(5), 1);
        check.due("prove(15)", x.prove(15), 1);
        check.due("prove(16)", x.prove(16), -1);
        x.term(15, -16, 0x1);
        check.due("the last one is 0", x.decompose(), -1);
    }

    private static void sixteenHypotheses() {
        check.sentence("Terms, ROWS are the HYPOTHESES that are not 0: all 16");
        TriangleSets x = Build.with("d");
        for (int k = 0; k < 16; k++) {
            Build.hypothesis(x, k + 1, 0xF - k % 15);
        }
        check.due("decompose", x.decompose(), 1);
        // x is the least; of x^2 to x^15 one STEP leaves 0, and so of the other x^15.
        Build.dueTold(check, "decompose", x, 2, 16, 1, 1, 16, 15, 0, 0, 0);
        Build.due(check, "member", x, 1, 0, 1, 0x1);
    }

    private static void eightVariables() {
        check.sentence("Terms, VARIABLES are at most 8: all 8 are in TERMS, THE ORDER and THE SET");
        TriangleSets x = Build.with("dddddddd");
        for (int k = 0; k < 8; k++) {
            // x0 is 1, and each of the others is the one before it.
            Build.hypothesis(x, 1, 1 << 4 * k, -1, k == 0 ? 0 : 1 << 4 * (k - 1));
            x.point(k, k + 2);
        }
        int p = Build.sum(x, 1, 0x10000000);
        int q = Build.sum(x, 1, 0x11111111, -1, 0);
        check.due("decompose", x.decompose(), 1);
        check.due("members", x.told(3), 8);
        check.due("x7", x.prove(p), 0);
        Build.due(check, "x7 is 1", x, 3, 0, 1, 0);
        check.due("product", x.prove(q), 1);
        check.due("value", x.value(0, q), 362879);
        for (int k = 0; k < 8; k++) {
            check.due("order(0, " + k + ")", x.order(0, k), true);
        }
        check.due("turned", x.decompose(), 1);
        check.due("x0 is the highest", x.member(x.told(3) - 1, 0), 0);
        check.due("product", x.prove(q), 1);
    }
}
