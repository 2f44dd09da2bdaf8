/** Promises 8 and 15: prove and quotient, with the STEPS that member() and told() say of them. */
public final class ProveTest {
    private static final Check check = new Check();

    public static void main(String[] args) {
        refused();
        zeroOrRemainder();
        fromTheLastToTheFirst();
        spent();
        quotientsAtAnyPoint();
        quotientsOutliveTheirPolynomial();
        diagonalsOfAParallelogram();
        check.end();
    }

    /** 2 x = a^2 and a y = a + 1, a being FREE. */
    private static TriangleSets twoMembers() {
        TriangleSets x = Build.with("fdd");
        Build.hypothesis(x, 2, 0x010, -1, 0x002);
        Build.hypothesis(x, 1, 0x101, -1, 0x001, -1, 0);
        check.due("decompose", x.decompose(), 1);
        check.due("members", x.told(3), 2);
        return x;
    }

    private static void refused() {
        TriangleSets x = Build.with("fd");
        int p = Build.sum(x, 1, 0x10);
        check.due("no set", x.prove(p), -1);
        x = twoMembers();
        p = Build.sum(x, 1, 0x010);
        check.due("prove", x.prove(p), 0);
        check.due("no such one", x.prove(p + 1), -1);
        check.due("no such one", x.prove(-1), -1);
        check.due("remainder stays", x.told(9), 1);
        check.due("steps stay", x.told(7), 1);
        check.due("quotient stays", x.quotient(0), 1);
    }

    private static void zeroOrRemainder() {
        TriangleSets x = twoMembers();
        int zero = Build.sum(x);
        int small = Build.sum(x, -6, 0x001, 4, 0);
        int hit = Build.sum(x, 4, 0x020, -1, 0x004);
        int miss = Build.sum(x, 6, 0x010, -5, 0x002);
        check.due("0", x.prove(zero), 1);
        Build.dueTold(check, "0", x, 7, 0, 0, 0);
        check.due("without steps", x.prove(small), 0);
        Build.dueTold(check, "without steps", x, 7, 0, 0, 2);
        Build.due(check, "as it is, not primitive", x, 3, 0, -6, 0x001, 4, 0);
        check.due("hit", x.prove(hit), 1);
        Build.dueTold(check, "hit", x, 7, 2, 0, 0);
        check.due("steps by the first", x.member(0, 3), 2);
        check.due("steps by the second", x.member(1, 3), 0);
        Build.due(check, "no remainder", x, 3, 0);
        check.due("miss", x.prove(miss), 0);
        Build.due(check, "not primitive", x, 3, 0, -4, 0x002);
        check.due("the set is as it was", x.told(3), 2);
    }

    private static void fromTheLastToTheFirst() {
        TriangleSets x = twoMembers();
        // By the second y x leaves (a + 1) x, and that by the first (a + 1) a^2.
        int p = Build.sum(x, 1, 0x110);
        check.due("both", x.prove(p), 0);
        check.due("steps", x.told(7), 2);
        check.due("steps by the first", x.member(0, 3), 1);
        check.due("steps by the second", x.member(1, 3), 1);
        Build.due(check, "remainder", x, 3, 0, 1, 0x003, 1, 0x002);
        x.point(0, 3);
        x.point(1, 5);
        x.point(2, 7);
        // By the second: x. By the first: all times 2, and a + 1 for it.
        check.due("quotient of the second", x.quotient(1), 10);
        check.due("quotient of the first", x.quotient(0), 4);
        check.due("no such one", x.quotient(2), 0);
        check.due("no such one", x.quotient(-1), 0);
    }

    private static void spent() {
        TriangleSets x = Build.with("fd");
        Build.hypothesis(x, 8192, 0x10, 1, 0x1);
        // Of x^2 + 1 two STEPS leave a^2 + 2^26; of x^3 + 1 the third one would have 2^39.
        int good = Build.sum(x, 1, 0x20, 1, 0);
        int bad = Build.sum(x, 1, 0x30, 1, 0);
        x.decompose();
        check.due("spent before any", x.prove(bad), 2);
        Build.dueTold(check, "spent before any", x, 7, 2, 0, 0);
        check.due("steps by it", x.member(0, 3), 0);
        check.due("quotient", x.quotient(0), 0);
        check.due("good", x.prove(good), 0);
        Build.dueTold(check, "good", x, 7, 2, 0, 2);
        x.point(1, 1);
        check.due("quotient", x.quotient(0), 8192);
        check.due("spent", x.prove(bad), 2);
        Build.dueTold(check, "spent", x, 7, 2, 0, 0);
        Build.due(check, "no remainder", x, 3, 0);
        check.due("steps by it of the good one", x.member(0, 3), 2);
        check.due("quotient of the good one", x.quotient(0), 8192);
        check.due("the set is as it was", x.told(3), 1);
    }

    private static void quotientsAtAnyPoint() {
        TriangleSets x = Build.with("ffdd");
        Build.hypothesis(x, 3, 0x0201, -1, 0x0010, 2, 0x0100);
        Build.hypothesis(x, 2, 0x2100, 5, 0x1010, -7, 0x0000);
        check.due("decompose", x.decompose(), 1);
        int p = Build.sum(x, 1, 0x3100, -2, 0x1211, 4, 0x0002);
        check.due("prove", x.prove(p), 0);
        check.due("steps by the first", x.member(0, 3) > 0, true);
        check.due("steps by the second", x.member(1, 3) > 0, true);
        long[] numbers = {0, 1, -1, 2, 3, Long.MAX_VALUE, Long.MIN_VALUE, 0x123456789ABCDEFL, -98765432109L};
        for (int k = 0; k < numbers.length * numbers.length; k++) {
            x.point(0, numbers[k % 9]);
            x.point(1, numbers[k / 9]);
            x.point(2, numbers[(k + k / 9) % 9]);
            x.point(3, numbers[(k + 5) % 9]);
            dueIdentity("point " + k, x, x.value(0, p));
        }
    }

    /** The INITIALS' product times the POLYNOMIAL is the quotients times the members, and the rest. */
    private static void dueIdentity(String name, TriangleSets x, long value) {
        long left = value;
        long right = x.value(3, 0);
        for (int i = 0; i < x.told(3); i++) {
            for (int s = 0; s < x.member(i, 3); s++) {
                left *= x.value(2, i);
            }
            right += x.quotient(i) * x.value(1, i);
        }
        check.due("identity at " + name, left, right);
    }

    private static void quotientsOutliveTheirPolynomial() {
        TriangleSets x = twoMembers();
        int p = Build.sum(x, 1, 0x120, 1, 0x001);
        x.prove(p);
        x.point(0, 2);
        x.point(1, 3);
        x.point(2, 5);
        long value = x.value(0, p);
        long first = x.quotient(0);
        x.term(p, 100, 0x220);
        check.due("quotient as it was", x.quotient(0), first);
        dueIdentity("a changed polynomial", x, value);
        check.due("another value", x.value(0, p) != value, true);
    }

    /** The diagonals of a parallelogram halve each other: (0, 0), (a, 0), (b, c), (a + b, c). */
    private static void diagonalsOfAParallelogram() {
        // a, b, c are FREE; the diagonals meet in (u, v): v (a + b) = u c and v (b - a) = (u - a) c.
        TriangleSets x = Build.with("fffdd");
        Build.hypothesis(x, 1, 0x10001, 1, 0x10010, -1, 0x01100);
        Build.hypothesis(x, 1, 0x10010, -1, 0x10001, -1, 0x01100, 1, 0x00101);
        int halvesU = Build.sum(x, 2, 0x01000, -1, 0x00001, -1, 0x00010);
        int halvesV = Build.sum(x, 2, 0x10000, -1, 0x00100);
        int wrong = Build.sum(x, 2, 0x10000, -1, 0x00001);
        check.due("decompose", x.decompose(), 1);
        check.due("triangle", x.told(3), 2);
        check.due("u is half of a + b", x.prove(halvesU), 1);
        check.due("v is half of c", x.prove(halvesV), 1);
        check.due("v is not half of a", x.prove(wrong), 0);
    }
}
