/** Promises 9 to 12 and 14: member, told, coefficient, powers, value. */
public final class TellTest {
    private static final int[] FAR_OFF = {Integer.MIN_VALUE, -1, 5, 10, 60, Integer.MAX_VALUE};
    private static final Check check = new Check();

    public static void main(String[] args) {
        members();
        memberSteps();
        noSuchMember();
        noSuchWhatOfAMember();
        toldBefore();
        toldAfter();
        toldZeroWhereThereIsNone();
        toldOfAnotherWhat();
        toldOfTheLatest();
        termsOfPolynomials();
        termsOfMembers();
        termsOfInitials();
        termsOfTheRemainder();
        termsOfTheCondition();
        noSuchTerm();
        noSuchOne();
        noSuchOf();
        remainderAndConditionAtZeroAlone();
        powersOfFifteenReadAsNone();
        values();
        noValues();
        valuesWrap();
        check.end();
    }

    /** a FREE, then x and y: (a + 1) x^2 - a and a x y^3 + y - 1; POLYNOMIAL 2 is 5 x^3. */
    private static TriangleSets twoMembers() {
        TriangleSets x = Build.with("fdd");
        Build.hypothesis(x, 1, 0x021, 1, 0x020, -1, 0x001);
        Build.hypothesis(x, 1, 0x311, 1, 0x100, -1, 0x000);
        Build.sum(x, 5, 0x030);
        check.due("decompose", x.decompose(), 1);
        return x;
    }

    /** a and b FREE, and 9 a^2 + 3 a b - 6 is to be 0. */
    private static TriangleSets conditioned() {
        TriangleSets x = Build.with("ff");
        Build.hypothesis(x, 9, 0x02, 3, 0x11, -6, 0);
        check.due("decompose", x.decompose(), 0);
        return x;
    }

    private static void members() {
        check.sentence("Promise 9, its MAIN VARIABLE (what = 0), its DEGREE in it (1), how many TERMS (2)");
        TriangleSets x = twoMembers();
        int[][] wants = {{1, 2, 3}, {2, 3, 3}};
        for (int i = 0; i < 2; i++) {
            for (int what = 0; what < 3; what++) {
                check.due("member(" + i + ", " + what + ")", x.member(i, what), wants[i][what]);
            }
        }
        TriangleSets y = Build.with("dddddddd");
        for (int k = 0; k < 8; k++) {
            Build.hypothesis(y, 1, (k + 2) << 4 * k, 1, 0);
        }
        check.due("eight", y.decompose(), 1);
        for (int k = 0; k < 8; k++) {
            check.due("main variable", y.member(k, 0), k);
            check.due("degree", y.member(k, 1), k + 2);
            check.due("terms", y.member(k, 2), 2);
        }
        check.due("no ninth", y.member(8, 0), -1);
    }

    private static void memberSteps() {
        check.sentence("Promise 9, how many STEPS by it the latest prove() made that was 0 or 1 (3; 0 before)");
        TriangleSets x = twoMembers();
        check.due("before", x.member(0, 3), 0);
        check.due("before", x.member(1, 3), 0);
        int p = Build.sum(x, 1, 0x530);
        check.due("prove", x.prove(p), 0);
        check.due("steps by the first", x.member(0, 3), 3);
        check.due("steps by the second", x.member(1, 3), 2);
        check.due("prove", x.prove(2), 0);
        check.due("steps by the first", x.member(0, 3), 1);
        check.due("steps by the second", x.member(1, 3), 0);
    }

    private static void noSuchMember() {
        check.sentence("Promise 9, NONE: there is none such: member");
        TriangleSets x = twoMembers();
        for (int what = 0; what < 4; what++) {
            check.due("member(2, " + what + ")", x.member(2, what), -1);
            for (int i : FAR_OFF) {
                check.due("member(" + i + ", " + what + ")", x.member(i, what), -1);
            }
        }
        x.order(0, 2);
        for (int what = 0; what < 4; what++) {
            check.due("without set", x.member(0, what), -1);
        }
    }

    private static void noSuchWhatOfAMember() {
        check.sentence("Promise 9, NONE: there is none such: what");
        TriangleSets x = twoMembers();
        for (int i = 0; i < 2; i++) {
            check.due("member(" + i + ", 4)", x.member(i, 4), -1);
            for (int what : FAR_OFF) {
                check.due("member(" + i + ", " + what + ")", x.member(i, what), -1);
            }
        }
    }

    private static void toldBefore() {
        check.sentence("Promise 10, 0 where there is none: before decompose() and prove()");
        TriangleSets x = Build.with("fdd");
        Build.hypothesis(x, 1, 0x021, 1, 0x020, -1, 0x001);
        Build.sum(x, 1, 0x010);
        Build.dueTold(check, "before", x, 0, 3, 2, 1, 0, 0, 0, 0, 0, 0, 0);
    }

    private static void toldAfter() {
        check.sentence("Promise 10, How many: VARIABLES (what = 0) to TERMS of the REMAINDER (9)");
        TriangleSets x = Build.with("ffdd");
        Build.hypothesis(x, 2, 0x100, -1, 0x1, -1, 0x10);
        Build.hypothesis(x, 1, 0x1000, -1, 0x200);
        Build.hypothesis(x);
        int p = Build.sum(x, 1, 0x1000);
        x.polynomial();
        x.decompose();
        Build.dueTold(check, "decomposed", x, 0, 4, 5, 3, 2, 2, 3, 5, 0, 0, 0);
        x.prove(p);
        Build.dueTold(check, "proven", x, 0, 4, 5, 3, 2, 2, 3, 5, 1, 0, 3);
        TriangleSets y = conditioned();
        Build.dueTold(check, "condition", y, 0, 2, 1, 1, 0, 0, 1, 0, 0, 3, 0);
    }

    private static void toldZeroWhereThereIsNone() {
        check.sentence("Promise 10, 0 where there is none: a REMAINDER of 0, no REMAINDER, no CONDITION, no SET");
        TriangleSets x = twoMembers();
        check.due("prove", x.prove(0), 1);
        Build.dueTold(check, "remainder of 0", x, 7, 1, 0, 0);
        check.due("prove", x.prove(2), 0);
        Build.dueTold(check, "remainder", x, 7, 1, 0, 1);
        x.use(2, true);
        Build.dueTold(check, "no set, no remainder", x, 3, 0, 1, 2, 0, 1, 0, 0);
    }

    private static void toldOfAnotherWhat() {
        check.sentence("Promise 10, NONE: another what");
        TriangleSets x = twoMembers();
        for (int what : new int[] {Integer.MIN_VALUE, -2, -1, 10, 11, 16, 32, Integer.MAX_VALUE}) {
            check.due("told(" + what + ")", x.told(what), -1);
        }
    }

    private static void toldOfTheLatest() {
        check.sentence("Promise 10, that the latest decompose() made, that the latest prove() made");
        TriangleSets x = Build.with("fd");
        int p = Build.hypothesis(x, 1, 0x10, -1, 0x1);
        int q = Build.hypothesis(x, 1, 0x20, -1, 0x2);
        x.decompose();
        Build.dueTold(check, "two rows", x, 4, 1, 2, 2, 0, 0);
        x.prove(q);
        x.prove(p);
        check.due("steps of the latest prove()", x.told(7), 1);
        x.use(q, false);
        x.decompose();
        Build.dueTold(check, "one row", x, 4, 1, 1, 0, 1, 0);
        int c = Build.hypothesis(x, 2, 0x1, 4, 0);
        x.decompose();
        Build.dueTold(check, "a condition", x, 4, 0, 2, 0, 1, 2);
        x.use(c, false);
        x.decompose();
        Build.dueTold(check, "no condition", x, 4, 1, 1, 0, 1, 0);
    }

    private static void termsOfPolynomials() {
        check.sentence("Promises 11 and 12, of POLYNOMIAL i (of = 0)");
        TriangleSets x = twoMembers();
        Build.due(check, "polynomial 0", x, 0, 0, 1, 0x021, 1, 0x020, -1, 0x001);
        Build.due(check, "polynomial 1", x, 0, 1, 1, 0x311, 1, 0x100, -1, 0x000);
        Build.due(check, "polynomial 2", x, 0, 2, 5, 0x030);
        int negative = Build.sum(x, -4, 0x100, 8, 0x001);
        Build.due(check, "as it was told, not primitive", x, 0, negative, -4, 0x100, 8, 0x001);
        for (int k = 4; k < 16; k++) {
            x.polynomial();
        }
        x.term(15, 9, 0x777);
        Build.due(check, "polynomial 15", x, 0, 15, 9, 0x777);
        Build.due(check, "polynomial 16", x, 0, 16);
    }

    private static void termsOfMembers() {
        check.sentence("Promises 11 and 12, of member i of THE SET (1)");
        TriangleSets x = twoMembers();
        Build.due(check, "member 0", x, 1, 0, 1, 0x021, 1, 0x020, -1, 0x001);
        Build.due(check, "member 1", x, 1, 1, 1, 0x311, 1, 0x100, -1, 0x000);
        Build.due(check, "member 2", x, 1, 2);
    }

    private static void termsOfInitials() {
        check.sentence("Promises 11 and 12, of its INITIAL (2)");
        TriangleSets x = twoMembers();
        Build.due(check, "initial 0", x, 2, 0, 1, 0x001, 1, 0x000);
        Build.due(check, "initial 1", x, 2, 1, 1, 0x011);
        Build.due(check, "initial 2", x, 2, 2);
        // FREE a is the highest now: its TERMS come first, in member and INITIAL.
        x.order(2, 0);
        x.decompose();
        Build.due(check, "member", x, 1, 0, 1, 0x021, -1, 0x001, 1, 0x020);
        Build.due(check, "initial", x, 2, 0, 1, 0x001, 1, 0x000);
    }

    private static void termsOfTheRemainder() {
        check.sentence("Promises 11 and 12, of the REMAINDER (3, i = 0)");
        TriangleSets x = twoMembers();
        Build.due(check, "none", x, 3, 0);
        x.prove(2);
        Build.due(check, "remainder", x, 3, 0, 5, 0x011);
        x.prove(0);
        Build.due(check, "0", x, 3, 0);
        Build.due(check, "no condition", x, 4, 0);
    }

    private static void termsOfTheCondition() {
        check.sentence("Promises 11 and 12, of the CONDITION (4, i = 0)");
        TriangleSets x = conditioned();
        Build.due(check, "condition", x, 4, 0, 1, 0x11, 3, 0x02, -2, 0);
        Build.due(check, "no remainder", x, 3, 0);
        x.term(0, 1, 0x20);
        Build.due(check, "as it was told", x, 4, 0, 1, 0x11, 3, 0x02, -2, 0);
    }

    private static void noSuchTerm() {
        check.sentence("Promises 11 and 12, 0 and NONE when there is none such: t");
        TriangleSets x = twoMembers();
        x.prove(2);
        TriangleSets y = conditioned();
        for (int t : new int[] {Integer.MIN_VALUE, -1, 3, 59, 60, 61, Integer.MAX_VALUE}) {
            for (int of = 0; of < 4; of++) {
                check.due("coefficient(" + of + ", 0, " + t + ")", x.coefficient(of, 0, t), 0);
                check.due("powers(" + of + ", 0, " + t + ")", x.powers(of, 0, t), -1);
            }
            check.due("coefficient(4, 0, " + t + ")", y.coefficient(4, 0, t), 0);
            check.due("powers(4, 0, " + t + ")", y.powers(4, 0, t), -1);
        }
        check.due("initial's t = 2", x.coefficient(2, 0, 2), 0);
        check.due("initial's t = 2", x.powers(2, 0, 2), -1);
        check.due("remainder's t = 1", x.coefficient(3, 0, 1), 0);
        check.due("remainder's t = 1", x.powers(3, 0, 1), -1);
    }

    private static void noSuchOne() {
        check.sentence("Promises 11 and 12, 0 and NONE when there is none such: i");
        TriangleSets x = twoMembers();
        for (int i : FAR_OFF) {
            for (int of = 0; of < 3; of++) {
                dueNothing(x, of, i);
            }
        }
        dueNothing(x, 0, 3);
        dueNothing(x, 1, 2);
        dueNothing(x, 2, 2);
        x.variable(true);
        dueNothing(x, 1, 0);
        dueNothing(x, 2, 0);
    }

    private static void noSuchOf() {
        check.sentence("Promises 11 and 12, 0 and NONE when there is none such: of");
        TriangleSets x = twoMembers();
        x.prove(2);
        for (int of : FAR_OFF) {
            dueNothing(x, of, 0);
            dueNothing(x, of, 1);
        }
    }

    private static void remainderAndConditionAtZeroAlone() {
        check.sentence("Promises 11, 12 and 14, the REMAINDER and the CONDITION have i = 0 alone");
        TriangleSets x = twoMembers();
        x.point(0, 1);
        x.point(1, 1);
        x.prove(2);
        TriangleSets y = conditioned();
        y.point(0, 1);
        check.due("remainder", x.value(3, 0), 5);
        check.due("condition", y.value(4, 0), 1);
        for (int i : new int[] {Integer.MIN_VALUE, -1, 1, 2, Integer.MAX_VALUE}) {
            dueNothing(x, 3, i);
            dueNothing(y, 4, i);
        }
    }

    private static void dueNothing(TriangleSets x, int of, int i) {
        String name = "(" + of + ", " + i;
        check.due("coefficient" + name + ", 0)", x.coefficient(of, i, 0), 0);
        check.due("powers" + name + ", 0)", x.powers(of, i, 0), -1);
        check.due("value" + name + ")", x.value(of, i), 0);
    }

    private static void powersOfFifteenReadAsNone() {
        check.sentence("Promise 12, The powers of that TERM, as term() has them: all of 15");
        TriangleSets x = Build.with("ffffffff");
        int p = Build.sum(x, 2, -1, 3, 0x7FFFFFFF, 4, 0x80000000);
        check.due("all of 15", x.powers(0, p, 0), -1);
        check.due("its coefficient", x.coefficient(0, p, 0), 2);
        check.due("the next", x.powers(0, p, 1), 0x80000000);
        check.due("the last", x.powers(0, p, 2), 0x7FFFFFFF);
        check.due("its coefficient", x.coefficient(0, p, 2), 3);
    }

    private static void values() {
        check.sentence("Promise 14, The value of such a POLYNOMIAL at THE POINT");
        TriangleSets x = twoMembers();
        check.due("at 0", x.value(0, 1), -1);
        x.point(0, 2);
        x.point(1, 3);
        x.point(2, -5);
        check.due("polynomial 0", x.value(0, 0), 25);
        check.due("polynomial 1", x.value(0, 1), -756);
        check.due("member 0", x.value(1, 0), 25);
        check.due("member 1", x.value(1, 1), -756);
        check.due("initial 0", x.value(2, 0), 3);
        check.due("initial 1", x.value(2, 1), 6);
        x.prove(2);
        check.due("remainder", x.value(3, 0), 30);
        x.order(0, 2);
        check.due("in any order", x.value(0, 1), -756);
        x.point(2, 0);
        check.due("at another point", x.value(0, 1), -1);
        TriangleSets y = conditioned();
        y.point(0, 2);
        y.point(1, -3);
        check.due("condition", y.value(4, 0), 4);
    }

    private static void noValues() {
        check.sentence("Promise 14, 0 when there is none");
        TriangleSets x = Build.with("f");
        x.point(0, 5);
        for (int of = -1; of < 6; of++) {
            check.due("value(" + of + ", 0)", x.value(of, 0), 0);
            check.due("value(" + of + ", -1)", x.value(of, -1), 0);
        }
        int p = Build.sum(x, 1, 0x1);
        check.due("value(0, 0)", x.value(0, p), 5);
        check.due("value(0, 1)", x.value(0, 1), 0);
        check.due("value(0, greatest)", x.value(0, Integer.MAX_VALUE), 0);
        check.due("value(0, least)", x.value(0, Integer.MIN_VALUE), 0);
    }

    private static void valuesWrap() {
        check.sentence("Terms, Values at THE POINT wrap (promise 14)");
        TriangleSets x = Build.with("ff");
        int p = Build.sum(x, 3, 0x0F, -1, 0x11);
        x.point(0, 1L << 32);
        x.point(1, (1L << 31) + 1);
        check.due("wraps", x.value(0, p), Long.MIN_VALUE - (1L << 32));
        x.point(0, 7);
        x.point(1, Long.MAX_VALUE);
        check.due("near the end", x.value(0, p), 3 * 4747561509943L - 7 * Long.MAX_VALUE);
        int q = Build.sum(x, 1L << 26, 0xFF);
        x.point(0, Long.MIN_VALUE + 1);
        x.point(1, -1);
        check.due("2^26 (2^63 - 1)^15", x.value(0, q), -(1L << 26));
        TriangleSets y = twoMembers();
        y.point(0, Long.MAX_VALUE);
        check.due("an initial", y.value(2, 0), Long.MIN_VALUE);
    }
}
