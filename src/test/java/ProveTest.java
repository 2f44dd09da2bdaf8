/** Promises 8 and 15: prove and quotient, with the STEPS that member() and told() say of them. */
public final class ProveTest {
    private static final Check check = new Check();

    public static void main(String[] args) {
        noneOfNoSuchPolynomial();
        noneWithoutSet();
        oneWhenItIsZero();
        zeroWhenItIsNot();
        theRemainderIsNotPrimitive();
        spent();
        spentAtTheFirstStep();
        hypothesesAndMembers();
        theLatestThatWasGood();
        noQuotientBefore();
        noQuotientOfNoSuchMember();
        quotientStepByStep();
        quotientsAtThePointOfNow();
        quotientsWrap();
        quotientsAtAnyPoint();
        quotientsOutliveTheirPolynomial();
        diagonalsOfAParallelogram();
        check.end();
    }

    /** 2 x = a^2 and a y = a + 1, a being FREE. */
    private static TriangleSets twoMembers() {
        TriangleSets x = Build.with("fdd");
        Build.hypothesis(x, 2, 0x010, -1, 0x002);
        Build.hypothesis(x, 1, 0x101, -1, 0x001, -1, 0);
        check.due("decompose", x.decompose(), 1);
        check.due("members", x.told(3), 2);
        return x;
    }

    private static void noneOfNoSuchPolynomial() {
        check.sentence("Promise 8, NONE when there is no such one");
        TriangleSets x = twoMembers();
        for (int p : new int[] {Integer.MIN_VALUE, -1, 2, 15, 16, Integer.MAX_VALUE}) {
            check.due("prove(" + p + ")", x.prove(p), -1);
        }
        check.due("a new one", x.polynomial(), 2);
        check.due("prove(2)", x.prove(2), 1);
        check.due("prove(3)", x.prove(3), -1);
    }

    private static void noneWithoutSet() {
        check.sentence("Promise 8, NONE when there is no SET");
        TriangleSets x = Build.with("fd");
        int p = Build.sum(x, 1, 0x10);
        check.due("no hypotheses", x.prove(p), -1);
        x.use(p, true);
        check.due("not decomposed", x.prove(p), -1);
        x.decompose();
        check.due("decomposed", x.prove(p), 1);
        int condition = Build.hypothesis(x, 1, 0x1);
        check.due("changed", x.prove(p), -1);
        check.due("condition", x.decompose(), 0);
        check.due("condition", x.prove(p), -1);
        x.use(condition, false);
        check.due("changed", x.prove(p), -1);
        check.due("decompose", x.decompose(), 1);
        check.due("decomposed", x.prove(p), 1);
        TriangleSets y = Build.with("fd");
        p = Build.hypothesis(y, 1, 0x1F, 1, 0);
        Build.hypothesis(y, 1, 0x20, 1, 0x1);
        check.due("spent", y.decompose(), 2);
        check.due("spent", y.prove(p), -1);
    }

    private static void oneWhenItIsZero() {
        check.sentence("Promise 8, 1 when the REMAINDER is 0");
        TriangleSets x = twoMembers();
        int zero = Build.sum(x);
        int hit = Build.sum(x, 4, 0x020, -1, 0x004);
        check.due("0", x.prove(zero), 1);
        Build.dueTold(check, "0", x, 7, 0, 0, 0);
        check.due("hit", x.prove(hit), 1);
        Build.dueTold(check, "hit", x, 7, 2, 0, 0);
        check.due("steps by the first", x.member(0, 3), 2);
        check.due("steps by the second", x.member(1, 3), 0);
        Build.due(check, "no remainder", x, 3, 0);
        check.due("no remainder", x.value(3, 0), 0);
        check.due("the set is as it was", x.told(3), 2);
    }

    private static void zeroWhenItIsNot() {
        check.sentence("Promise 8, 0 when it is not (it is told)");
        TriangleSets x = twoMembers();
        int number = Build.sum(x, 1, 0);
        int both = Build.sum(x, 1, 0x110);
        int zero = x.polynomial();
        check.due("a number", x.prove(number), 0);
        Build.dueTold(check, "a number", x, 7, 0, 0, 1);
        Build.due(check, "a number", x, 3, 0, 1, 0);
        // By the second y x leaves (a + 1) x, and that by the first (a + 1) a^2.
        check.due("both", x.prove(both), 0);
        Build.dueTold(check, "both", x, 7, 2, 0, 2);
        Build.due(check, "both", x, 3, 0, 1, 0x003, 1, 0x002);
        check.due("steps by the first", x.member(0, 3), 1);
        check.due("steps by the second", x.member(1, 3), 1);
        Build.due(check, "the polynomial is as it was", x, 0, both, 1, 0x110);
        check.due("0 next", x.prove(zero), 1);
        check.due("none any more", x.told(9), 0);
        Build.due(check, "none any more", x, 3, 0);
    }

    private static void theRemainderIsNotPrimitive() {
        check.sentence("Terms, What is left is the REMAINDER: prove() does not make it PRIMITIVE");
        TriangleSets x = twoMembers();
        int small = Build.sum(x, -6, 0x001, 4, 0);
        int miss = Build.sum(x, 6, 0x010, -5, 0x002);
        check.due("without steps", x.prove(small), 0);
        Build.dueTold(check, "without steps", x, 7, 0, 0, 2);
        Build.due(check, "without steps", x, 3, 0, -6, 0x001, 4, 0);
        check.due("with a step", x.prove(miss), 0);
        Build.due(check, "with a step", x, 3, 0, -4, 0x002);
    }

    /** 8192 x = -a: of x^2 + 1 two STEPS leave a^2 + 2^26; of x^3 + 1 the third one would have 2^39. */
    private static TriangleSets great() {
        TriangleSets x = Build.with("fd");
        Build.hypothesis(x, 8192, 0x10, 1, 0x1);
        Build.sum(x, 1, 0x20, 1, 0);
        Build.sum(x, 1, 0x30, 1, 0);
        check.due("decompose", x.decompose(), 1);
        return x;
    }

    private static void spent() {
        check.sentence("Promise 8, 2 when it is SPENT (no REMAINDER then)");
        TriangleSets x = great();
        check.due("good", x.prove(1), 0);
        Build.dueTold(check, "good", x, 7, 2, 0, 2);
        check.due("spent", x.prove(2), 2);
        Build.dueTold(check, "spent", x, 7, 2, 0, 0);
        Build.due(check, "no remainder", x, 3, 0);
        check.due("no remainder", x.value(3, 0), 0);
        check.due("the set is as it was", x.told(3), 1);
    }

    private static void spentAtTheFirstStep() {
        check.sentence("Promise 10, STEPS that the latest prove() made: one that was SPENT too");
        TriangleSets x = great();
        int at = Build.sum(x, 1 << 20, 0x10, 1 << 20, 0);
        check.due("good", x.prove(1), 0);
        check.due("two", x.told(7), 2);
        check.due("spent", x.prove(at), 2);
        check.due("none", x.told(7), 0);
        check.due("good", x.prove(1), 0);
        check.due("two", x.told(7), 2);
    }

    private static void hypothesesAndMembers() {
        check.sentence("Promise 8, REDUCES a POLYNOMIAL by THE SET: a HYPOTHESIS too");
        TriangleSets x = twoMembers();
        check.due("prove(0)", x.prove(0), 1);
        Build.dueTold(check, "prove(0)", x, 7, 1, 0, 0);
        check.due("prove(1)", x.prove(1), 1);
        Build.dueTold(check, "prove(1)", x, 7, 1, 0, 0);
        check.due("the set is as it was", x.told(3), 2);
    }

    private static void theLatestThatWasGood() {
        check.sentence("Promises 9 and 15, in the latest prove() that was 0 or 1");
        TriangleSets x = great();
        x.point(1, 1);
        check.due("good", x.prove(1), 0);
        check.due("steps by it", x.member(0, 3), 2);
        check.due("quotient", x.quotient(0), 8192);
        check.due("spent", x.prove(2), 2);
        check.due("steps by it still", x.member(0, 3), 2);
        check.due("quotient still", x.quotient(0), 8192);
        check.due("refused", x.prove(3), -1);
        check.due("steps by it still", x.member(0, 3), 2);
        check.due("quotient still", x.quotient(0), 8192);
        check.due("1", x.prove(0), 1);
        check.due("steps by it now", x.member(0, 3), 1);
        check.due("quotient now", x.quotient(0), 8192);
        x.term(1, -1, 0x20);
        check.due("0 without steps", x.prove(1), 0);
        check.due("steps by it now", x.member(0, 3), 0);
        check.due("quotient now", x.quotient(0), 0);
    }

    private static void noQuotientBefore() {
        check.sentence("Promises 9 and 15, 0 before a prove() that was 0 or 1");
        TriangleSets x = great();
        x.point(0, 3);
        x.point(1, 5);
        check.due("steps by it", x.member(0, 3), 0);
        check.due("quotient", x.quotient(0), 0);
        check.due("spent", x.prove(2), 2);
        check.due("steps by it", x.member(0, 3), 0);
        check.due("quotient", x.quotient(0), 0);
        check.due("steps of it", x.told(7), 2);
    }

    private static void noQuotientOfNoSuchMember() {
        check.sentence("Promise 15, 0 when there is none such");
        TriangleSets x = twoMembers();
        x.prove(Build.sum(x, 1, 0x110));
        x.point(0, 3);
        x.point(1, 5);
        check.due("quotient(0)", x.quotient(0), 4);
        check.due("quotient(1)", x.quotient(1), 10);
        for (int i : new int[] {Integer.MIN_VALUE, -1, 2, 7, 8, Integer.MAX_VALUE}) {
            check.due("quotient(" + i + ")", x.quotient(i), 0);
        }
        x.variable(true);
        check.due("quotient(0) without set", x.quotient(0), 0);
        check.due("quotient(1) without set", x.quotient(1), 0);
    }

    private static void quotientStepByStep() {
        check.sentence("Promise 15, by each STEP by b all are times I, and then b's is L x^(d - e) more");
        TriangleSets x = twoMembers();
        int p = Build.sum(x, 1, 0x230);
        x.point(0, 3);
        x.point(1, 5);
        x.point(2, 7);
        check.due("prove", x.prove(p), 0);
        check.due("steps by the second", x.member(1, 3), 2);
        check.due("steps by the first", x.member(0, 3), 3);
        // y^2 x^3 by the second (I = a = 3): x^3 y = 875; then 3 * 875, and (a + 1) x^3 = 500 more.
        // By the first (I = 2) three times: 3125 * 8. Its own: (a + 1)^2 x^2 = 400; then 2 * 400, and
        // (a + 1)^2 a^2 x = 720 more; then 2 * 1520, and (a + 1)^2 a^4 = 1296 more.
        check.due("of the second", x.quotient(1), 25000);
        check.due("of the first", x.quotient(0), 4336);
    }

    private static void quotientsAtThePointOfNow() {
        check.sentence("Promise 15, The value at THE POINT: of now, not of when it was proven");
        TriangleSets x = twoMembers();
        x.point(1, 100);
        check.due("prove", x.prove(Build.sum(x, 1, 0x110)), 0);
        check.due("x = 100", x.quotient(1), 200);
        x.point(1, -1);
        check.due("x = -1", x.quotient(1), -2);
        x.point(1, 1L << 62);
        check.due("x = 2^62", x.quotient(1), Long.MIN_VALUE);
        x.point(1, 1L << 63);
        check.due("x = -2^63", x.quotient(1), 0);
    }

    private static void quotientsWrap() {
        check.sentence("Terms, Values at THE POINT wrap (promise 15)");
        // By x - a the quotient of x^3 is x^2 + a x + a^2.
        TriangleSets x = Build.with("fd");
        Build.hypothesis(x, 1, 0x10, -1, 0x1);
        int p = Build.sum(x, 1, 0x30);
        check.due("decompose", x.decompose(), 1);
        check.due("prove", x.prove(p), 0);
        x.point(0, 1L << 32);
        x.point(1, (1L << 31) + 1);
        check.due("2^62 + 2^32 + 1, 2^63 + 2^32 and 2^64", x.quotient(0), (3L << 62) + (1L << 33) + 1);
        x.point(0, Long.MAX_VALUE);
        x.point(1, Long.MIN_VALUE);
        check.due("0, -2^63 and 1", x.quotient(0), Long.MIN_VALUE + 1);
    }

    private static void quotientsAtAnyPoint() {
        check.sentence("Promise 15, the product of all INITIALS times the POLYNOMIAL is the sum, at any POINT");
        long[] numbers = {0, 1, -1, 2, 3, Long.MAX_VALUE, Long.MIN_VALUE, 0x123456789ABCDEFL, -98765432109L};
        for (int a = 0; a < 9; a++) {
            TriangleSets x = Build.with("ffdd");
            Build.hypothesis(x, 3, 0x0201, -1, 0x0010, 2, 0x0100);
            Build.hypothesis(x, 2, 0x2100, 5, 0x1010, -7, 0x0000);
            check.due("decompose", x.decompose(), 1);
            int p = Build.sum(x, 1, 0x3100, -2, 0x1211, 4, 0x0002);
            check.due("prove", x.prove(p), 0);
            check.due("steps by the first", x.member(0, 3) > 0, true);
            check.due("steps by the second", x.member(1, 3) > 0, true);
            x.point(0, numbers[a]);
            for (int b = 0; b < 9; b++) {
                x.point(1, numbers[b]);
                x.point(2, numbers[(a + b) % 9]);
                x.point(3, numbers[(a + 5) % 9]);
                dueIdentity("point " + a + " " + b, x, x.value(0, p));
            }
        }
    }

    /** The INITIALS' product times the POLYNOMIAL is the quotients times the members, and the rest. */
    private static void dueIdentity(String name, TriangleSets x, long value) {
        long left = value;
        long right = x.value(3, 0);
        for (int i = 0; i < 2; i++) {
            int steps = x.member(i, 3);
            long initial = x.value(2, i);
            for (int s = 0; s < steps; s++) {
                left *= initial;
            }
            right += x.quotient(i) * x.value(1, i);
        }
        check.due("identity at " + name, left, right);
    }

    private static void quotientsOutliveTheirPolynomial() {
        check.sentence("Promise 15, in the latest prove(): as the POLYNOMIAL was then");
        TriangleSets x = twoMembers();
        int p = Build.sum(x, 1, 0x120, 1, 0x001);
        x.prove(p);
        x.point(0, 2);
        x.point(1, 3);
        x.point(2, 5);
        long value = x.value(0, p);
        long first = x.quotient(0);
        x.term(p, 100, 0x220);
        check.due("quotient as it was", x.quotient(0), first);
        dueIdentity("a changed polynomial", x, value);
        check.due("another value", x.value(0, p) != value, true);
    }

    /** The diagonals of a parallelogram halve each other: (0, 0), (a, 0), (b, c), (a + b, c). */
    private static void diagonalsOfAParallelogram() {
        check.sentence("What it is, a further one is 0 wherever these are and their initials are not");
        // a, b, c are FREE; the diagonals meet in (u, v): v (a + b) = u c and v (b - a) = (u - a) c.
        TriangleSets x = Build.with("fffdd");
        Build.hypothesis(x, 1, 0x10001, 1, 0x10010, -1, 0x01100);
        Build.hypothesis(x, 1, 0x10010, -1, 0x10001, -1, 0x01100, 1, 0x00101);
        int halvesU = Build.sum(x, 2, 0x01000, -1, 0x00001, -1, 0x00010);
        int halvesV = Build.sum(x, 2, 0x10000, -1, 0x00100);
        int wrong = Build.sum(x, 2, 0x10000, -1, 0x00001);
        check.due("decompose", x.decompose(), 1);
        check.due("triangle", x.told(3), 2);
        check.due("u is half of a + b", x.prove(halvesU), 1);
        check.due("v is half of c", x.prove(halvesV), 1);
        check.due("v is not half of a", x.prove(wrong), 0);
    }
}
