/** Part 'Terms': when THE SET and the REMAINDER are none, and what stays then; together with promises 2 to 8. */
public final class ChangeTest {
    private static final Check check = new Check();

    public static void main(String[] args) {
        noneAtFirst();
        variablesChange();
        theOrderChanges();
        hypothesesChange();
        theirTermsChange();
        theConditionStays();
        theNumbersStay();
        thePointStays();
        theSetDoesNotComeBack();
        newMembersHadNoSteps();
        whatChangesNothing();
        otherThingsChange();
        check.end();
    }

    /** 2 x = a and y = x^2: two ROUNDS; of y + x there is a remainder, at THE POINT 2, 3, 5. */
    private static TriangleSets proven() {
        TriangleSets x = Build.with("fdd");
        Build.hypothesis(x, 2, 0x010, -1, 0x001);
        Build.hypothesis(x, 1, 0x100, -1, 0x020);
        Build.sum(x, 1, 0x100, 1, 0x010);
        x.point(0, 2);
        x.point(1, 3);
        x.point(2, 5);
        check.due("decompose", x.decompose(), 1);
        check.due("prove", x.prove(2), 0);
        Build.dueTold(check, "at first", x, 2, 2, 2, 2, 3, 5, 2, 0, 2);
        return x;
    }

    /** THE SET and the REMAINDER are none, all else is told as it was. */
    private static void dueNone(String name, TriangleSets x) {
        Build.dueTold(check, name, x, 3, 0, 2, 3, 5, 2, 0, 0);
        Build.due(check, name + ": member", x, 1, 0);
        Build.due(check, name + ": initial", x, 2, 0);
        Build.due(check, name + ": remainder", x, 3, 0);
        for (int of = 1; of < 4; of++) {
            check.due(name + ": value(" + of + ", 0)", x.value(of, 0), 0);
        }
        for (int what = 0; what < 4; what++) {
            check.due(name + ": member(0, " + what + ")", x.member(0, what), -1);
        }
        check.due(name + ": quotient(0)", x.quotient(0), 0);
        check.due(name + ": prove", x.prove(2), -1);
    }

    private static void dueKept(String name, TriangleSets x) {
        Build.dueTold(check, name, x, 3, 2, 2, 3, 5, 2, 0, 2);
        check.due(name + ": member(1, 3)", x.member(1, 3), 1);
        check.due(name + ": member(0, 3)", x.member(0, 3), 1);
        check.due(name + ": quotient(1)", x.quotient(1), 2);
        check.due(name + ": quotient(0)", x.quotient(0), 4);
    }

    private static void noneAtFirst() {
        check.sentence("Terms, THE SET is none at first");
        TriangleSets x = Build.with("fd");
        int p = Build.hypothesis(x, 1, 0x10);
        check.due("told(3)", x.told(3), 0);
        check.due("told(9)", x.told(9), 0);
        check.due("prove", x.prove(p), -1);
        check.due("member(0, 0)", x.member(0, 0), -1);
        Build.due(check, "member", x, 1, 0);
    }

    private static void variablesChange() {
        check.sentence("Terms, THE SET and the REMAINDER are none when VARIABLES change (promise 2)");
        TriangleSets x = proven();
        x.variable(true);
        dueNone("a free one more", x);
        x = proven();
        x.variable(false);
        dueNone("one more", x);
    }

    private static void theOrderChanges() {
        check.sentence("Terms, THE SET and the REMAINDER are none when THE ORDER changes (promise 3)");
        TriangleSets x = proven();
        x.order(0, 1);
        dueNone("downwards", x);
        x = proven();
        x.order(2, 0);
        dueNone("upwards", x);
    }

    private static void hypothesesChange() {
        check.sentence("Terms, THE SET and the REMAINDER are none when HYPOTHESES change (promise 6)");
        TriangleSets x = proven();
        x.use(2, true);
        dueNone("one more", x);
        x = proven();
        x.use(1, false);
        dueNone("one less", x);
        x = proven();
        x.use(x.polynomial(), true);
        dueNone("one more that is 0", x);
    }

    private static void theirTermsChange() {
        check.sentence("Terms, THE SET and the REMAINDER are none when TERMS of HYPOTHESES change (promise 5)");
        TriangleSets x = proven();
        x.term(1, 1, 0);
        dueNone("a new one", x);
        x = proven();
        x.term(0, 1, 0x001);
        dueNone("one that goes", x);
        x = proven();
        x.term(1, 1, 0x020);
        x.term(1, -1, 0x020);
        dueNone("one that goes and comes", x);
    }

    private static void change(TriangleSets x, int which) {
        switch (which) {
            case 0: x.variable(true); break;
            case 1: x.order(0, 1); break;
            case 2: x.use(0, false); break;
            case 3: x.term(1, 1, 0x11); break;
            default: x.polynomial(); break;
        }
    }

    private static void theConditionStays() {
        check.sentence("Terms, what else is told stays: the CONDITION (promises 10 to 12 and 14)");
        for (int change = 0; change < 5; change++) {
            TriangleSets x = Build.with("fd");
            Build.hypothesis(x, 1, 0x10, -1, 0x1);
            Build.hypothesis(x, 1, 0x10, -3, 0x1, 2, 0);
            x.point(0, 9);
            check.due("decompose", x.decompose(), 0);
            change(x, change);
            Build.dueTold(check, "change " + change, x, 3, 0, 1, 2, 1, 0, 2, 0);
            Build.due(check, "change " + change, x, 4, 0, 1, 0x1, -1, 0);
            check.due("change " + change, x.value(4, 0), 8);
        }
    }

    private static void theNumbersStay() {
        check.sentence("Terms, what else is told stays: ROUNDS, ROWS and STEPS (promise 10)");
        for (int change = 0; change < 5; change++) {
            TriangleSets x = proven();
            change(x, change);
            Build.dueTold(check, "change " + change, x, 4, 2, 3, 5, 2, 0);
        }
    }

    private static void thePointStays() {
        check.sentence("Terms, THE POINT has a number for each VARIABLE: whatever else changes (promises 13 and 14)");
        for (int change = 0; change < 5; change++) {
            TriangleSets x = proven();
            int p = Build.sum(x, 1, 0x001, 10, 0x010, 100, 0x100);
            change(x, change);
            check.due("change " + change, x.value(0, p), 532);
            x.decompose();
            x.prove(p);
            check.due("decompose() and prove() after " + change, x.value(0, p), 532);
        }
    }

    private static void theSetDoesNotComeBack() {
        check.sentence("Terms, THE SET is none till the next decompose(), though all is as it was again");
        TriangleSets x = proven();
        x.use(1, false);
        x.use(1, true);
        dueNone("use", x);
        x = proven();
        x.order(2, 1);
        x.order(1, 1);
        dueNone("order", x);
        check.due("decompose", x.decompose(), 1);
        Build.dueTold(check, "decompose", x, 3, 2, 2, 3, 5, 2, 0, 0);
        check.due("prove", x.prove(2), 0);
        dueKept("as it was", x);
    }

    private static void newMembersHadNoSteps() {
        check.sentence("Promises 9 and 15, by members of a new SET the latest prove() made no STEPS");
        TriangleSets x = proven();
        x.term(1, 1, 0);
        check.due("decompose", x.decompose(), 1);
        check.due("members", x.told(3), 2);
        for (int i = 0; i < 2; i++) {
            check.due("member(" + i + ", 3)", x.member(i, 3), 0);
            check.due("quotient(" + i + ")", x.quotient(i), 0);
        }
        check.due("steps of the latest prove() stay", x.told(7), 2);
        check.due("remainder", x.told(9), 0);
    }

    private static void whatChangesNothing() {
        check.sentence("Terms, THE SET stays when nothing of this changes: calls that leave all as it was");
        TriangleSets x = proven();
        for (int k = 0; k < 3; k++) {
            check.due("order(" + k + ", " + k + ")", x.order(k, k), true);
        }
        dueKept("order to its own place", x);
        check.due("term(0, 0, 0x110)", x.term(0, 0, 0x110), true);
        check.due("term(0, 0, 0x010)", x.term(0, 0, 0x010), true);
        dueKept("a term of 0", x);
    }

    private static void otherThingsChange() {
        check.sentence("Terms, THE SET stays when something else changes: POLYNOMIALS, THE POINT");
        TriangleSets x = proven();
        check.due("polynomial()", x.polynomial(), 3);
        check.due("term of no hypothesis", x.term(3, 5, 0x100), true);
        check.due("term of the proven one", x.term(2, 5, 0x111), true);
        dueKept("polynomials", x);
        x.point(1, 7);
        x.point(1, 3);
        dueKept("the point", x);
        x.pseudo(1, 2);
        dueKept("pseudo", x);
    }
}
