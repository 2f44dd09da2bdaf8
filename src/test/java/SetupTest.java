/** Promises 1 to 6: a new object, variable, order, polynomial, term, use. */
public final class SetupTest {
    private static final long LIMIT = 1L << 26;
    private static final Check check = new Check();

    public static void main(String[] args) {
        newObject();
        variables();
        order();
        orderSortsTerms();
        polynomials();
        terms();
        termEdges();
        sixtyTerms();
        use();
        changesDropTheSet();
        whatChangesNothingKeepsTheSet();
        check.end();
    }

    private static void newObject() {
        TriangleSets x = new TriangleSets();
        Build.dueTold(check, "new", x, -1, -1, 0, 0, 0, 0, 0, 0, 0, 0, 0, 0, -1);
        check.due("new decompose", x.decompose(), -1);
        check.due("new prove", x.prove(0), -1);
        check.due("new member", x.member(0, 0), -1);
        check.due("new order", x.order(0, 0), false);
        check.due("new term", x.term(0, 1, 0), false);
        check.due("new use", x.use(0, true), false);
        check.due("new point", x.point(0, 1), false);
        for (int of = 0; of < 5; of++) {
            Build.due(check, "new " + of, x, of, 0);
            check.due("new value " + of, x.value(of, 0), 0);
        }
        check.due("new quotient", x.quotient(0), 0);
    }

    private static void variables() {
        TriangleSets x = new TriangleSets();
        for (int k = 0; k < 8; k++) {
            check.due("variable " + k, x.variable(k % 2 == 0), k);
        }
        check.due("ninth variable", x.variable(false), -1);
        check.due("variables", x.told(0), 8);
        // VARIABLE 6 is higher, but FREE, and so never MAIN.
        Build.hypothesis(x, 1, 0x01000000, 1, 0x00200001);
        check.due("decompose", x.decompose(), 1);
        check.due("main variable under a free one", x.member(0, 0), 5);
        check.due("degree in it", x.member(0, 1), 2);
    }

    private static void order() {
        TriangleSets x = Build.with("ddd");
        check.due("order(-1, 0)", x.order(-1, 0), false);
        check.due("order(3, 0)", x.order(3, 0), false);
        check.due("order(0, -1)", x.order(0, -1), false);
        check.due("order(0, 3)", x.order(0, 3), false);
        int p = Build.sum(x, 1, 0x1, 2, 0x10, 3, 0x100);
        Build.due(check, "at first", x, 0, p, 3, 0x100, 2, 0x10, 1, 0x1);
        check.due("order(0, 2)", x.order(0, 2), true);
        Build.due(check, "2 0 1", x, 0, p, 2, 0x10, 1, 0x1, 3, 0x100);
        check.due("order(2, 2)", x.order(2, 2), true);
        Build.due(check, "0 1 2", x, 0, p, 3, 0x100, 2, 0x10, 1, 0x1);
        check.due("order(2, 0)", x.order(2, 0), true);
        Build.due(check, "1 2 0", x, 0, p, 1, 0x1, 3, 0x100, 2, 0x10);
        check.due("order(1, 0)", x.order(1, 0), true);
        Build.due(check, "1 0 2", x, 0, p, 3, 0x100, 1, 0x1, 2, 0x10);
        check.due("a new one is the highest", x.variable(true), 3);
        x.term(p, 4, 0x1000);
        Build.due(check, "1 0 2 3", x, 0, p, 4, 0x1000, 3, 0x100, 1, 0x1, 2, 0x10);
    }

    private static void orderSortsTerms() {
        TriangleSets x = Build.with("ddffffff");
        int p = Build.sum(x, 1, 0xF0000001, 1, 0xF0000010, 1, 0x0F000033, 1, 0);
        Build.due(check, "eight", x, 0, p, 1, 0xF0000010, 1, 0xF0000001, 1, 0x0F000033, 1, 0);
        x.order(0, 7);
        Build.due(check, "7 lowest", x, 0, p, 1, 0x0F000033, 1, 0xF0000010, 1, 0xF0000001, 1, 0);
        x.order(7, 0);
        Build.due(check, "0 highest", x, 0, p, 1, 0x0F000033, 1, 0xF0000001, 1, 0xF0000010, 1, 0);
        // The condition that was told outlives a change of THE ORDER, and its TERMS follow it.
        TriangleSets y = Build.with("ff");
        Build.hypothesis(y, 2, 0x1, -4, 0x10);
        check.due("a condition", y.decompose(), 0);
        Build.due(check, "condition", y, 4, 0, 2, 0x10, -1, 0x1);
        y.order(0, 1);
        Build.due(check, "condition in another order", y, 4, 0, -1, 0x1, 2, 0x10);
        y.decompose();
        Build.due(check, "condition anew", y, 4, 0, 1, 0x1, -2, 0x10);
    }

    private static void polynomials() {
        TriangleSets x = new TriangleSets();
        for (int k = 0; k < 16; k++) {
            check.due("polynomial " + k, x.polynomial(), k);
            Build.due(check, "it is 0", x, 0, k);
        }
        check.due("17th polynomial", x.polynomial(), -1);
        check.due("polynomials", x.told(1), 16);
    }

    private static void terms() {
        TriangleSets x = Build.with("fd");
        int p = x.polynomial();
        check.due("term", x.term(p, 3, 0x21), true);
        check.due("again", x.term(p, 4, 0x21), true);
        check.due("another", x.term(p, -1, 0x30), true);
        check.due("0 times", x.term(p, 0, 0x11), true);
        Build.due(check, "sum", x, 0, p, -1, 0x30, 7, 0x21);
        check.due("taken away", x.term(p, -7, 0x21), true);
        Build.due(check, "less", x, 0, p, -1, 0x30);
        check.due("no such polynomial", x.term(p + 1, 1, 0), false);
        check.due("no such polynomial", x.term(-1, 1, 0), false);
        check.due("no such variable", x.term(p, 1, 0x100), false);
        check.due("no such variable", x.term(p, 1, 0x80000000), false);
        check.due("no such variable, 0 times", x.term(p, 0, 0x100), false);
        Build.due(check, "as before", x, 0, p, -1, 0x30);
    }

    private static void termEdges() {
        TriangleSets x = Build.with("dddddddd");
        int p = x.polynomial();
        check.due("greatest", x.term(p, LIMIT, -1), true);
        check.due("all powers of 15", x.powers(0, p, 0), -1);
        check.due("one more", x.term(p, 1, -1), false);
        check.due("least, by twice", x.term(p, -2 * LIMIT, -1), true);
        check.due("least", x.coefficient(0, p, 0), -LIMIT);
        check.due("one less", x.term(p, -1, -1), false);
        check.due("wraps if added", x.term(p, Long.MIN_VALUE, -1), false);
        check.due("wraps if added", x.term(p, Long.MAX_VALUE, -1), false);
        check.due("wraps to a sound one if cut", x.term(p, 1L << 32, -1), false);
        check.due("too great", x.term(p, LIMIT + 1, 0), false);
        check.due("too little", x.term(p, -LIMIT - 1, 0), false);
        Build.due(check, "as before", x, 0, p, -LIMIT, -1);
    }

    private static void sixtyTerms() {
        TriangleSets x = Build.with("dd");
        int p = x.polynomial();
        for (int k = 0; k < 60; k++) {
            check.due("term " + k, x.term(p, k + 1, k), true);
        }
        check.due("61st", x.term(p, 1, 60), false);
        check.due("61st, 0 times", x.term(p, 0, 60), true);
        check.due("one of the 60", x.term(p, 1, 59), true);
        check.due("one away", x.term(p, -1, 0), true);
        check.due("and another", x.term(p, 1, 60), true);
        check.due("first", x.powers(0, p, 0), 60);
        check.due("second", x.coefficient(0, p, 1), 61);
        check.due("last", x.powers(0, p, 59), 1);
        check.due("behind", x.powers(0, p, 60), -1);
    }

    private static void use() {
        TriangleSets x = new TriangleSets();
        x.polynomial();
        check.due("use(0, false)", x.use(0, false), false);
        check.due("use(0, true)", x.use(0, true), true);
        check.due("use(0, true)", x.use(0, true), false);
        check.due("hypotheses", x.told(2), 1);
        check.due("use(1, true)", x.use(1, true), false);
        check.due("use(-1, true)", x.use(-1, true), false);
        check.due("use(0, false)", x.use(0, false), true);
        check.due("hypotheses", x.told(2), 0);
    }

    /** x - a is 0, and of x there is a remainder a. */
    private static TriangleSets proven() {
        TriangleSets x = Build.with("fd");
        Build.hypothesis(x, 1, 0x10, -1, 0x1);
        Build.sum(x, 1, 0x10);
        x.decompose();
        x.prove(1);
        check.due("members", x.told(3), 1);
        check.due("remainder", x.told(9), 1);
        return x;
    }

    private static void dueDropped(String name, TriangleSets x) {
        check.due(name + ": members", x.told(3), 0);
        check.due(name + ": remainder", x.told(9), 0);
        check.due(name + ": value of it", x.value(3, 0), 0);
        check.due(name + ": prove", x.prove(1), -1);
        check.due(name + ": steps of prove stay", x.told(7), 1);
        check.due(name + ": rounds stay", x.told(4), 1);
        check.due(name + ": rows stay", x.told(5), 1);
        x.decompose();
        check.due(name + ": steps by a new member", x.member(0, 3) <= 0, true);
        check.due(name + ": quotient of a new member", x.quotient(0), 0);
    }

    private static void changesDropTheSet() {
        TriangleSets x = proven();
        x.variable(true);
        dueDropped("variable", x);
        x = proven();
        x.order(0, 1);
        dueDropped("order", x);
        x = proven();
        x.use(1, true);
        dueDropped("use", x);
        x = proven();
        x.use(0, false);
        dueDropped("use no more", x);
        x = proven();
        x.term(0, 1, 0);
        dueDropped("term", x);
        x = proven();
        x.use(x.polynomial(), true);
        dueDropped("use of 0", x);
    }

    private static void whatChangesNothingKeepsTheSet() {
        TriangleSets x = proven();
        x.order(1, 1);
        x.order(2, 1);
        x.term(0, 0, 0x10);
        x.term(0, LIMIT, 0x10);
        x.term(0, 1, 0x100);
        x.term(1, 5, 0x1);
        x.use(0, true);
        x.use(1, false);
        x.polynomial();
        x.point(0, 7);
        x.prove(-1);
        x.prove(3);
        check.due("members", x.told(3), 1);
        check.due("remainder", x.told(9), 1);
        check.due("steps", x.told(7), 1);
        check.due("steps by it", x.member(0, 3), 1);
        check.due("quotient", x.quotient(0), 1);
        check.due("value of the remainder", x.value(3, 0), 7);
    }
}
