/** Promises 9 to 14: member, told, coefficient, powers, point, value. */
public final class TellTest {
    private static final Check check = new Check();

    public static void main(String[] args) {
        members();
        toldNumbers();
        termsOfAll();
        wrongNames();
        points();
        valuesWrap();
        allPowersOfFifteen();
        check.end();
    }

    /** a FREE, then x and y: (a + 1) x^2 - a and a x y^3 + y - 1. */
    private static TriangleSets twoMembers() {
        TriangleSets x = Build.with("fdd");
        Build.hypothesis(x, 1, 0x021, 1, 0x020, -1, 0x001);
        Build.hypothesis(x, 1, 0x311, 1, 0x100, -1, 0x000);
        check.due("decompose", x.decompose(), 1);
        return x;
    }

    private static void members() {
        TriangleSets x = twoMembers();
        int[][] wants = {{-1, -1, -1, -1, -1, -1}, {-1, 1, 2, 3, 0, -1}, {-1, 2, 3, 3, 0, -1}, {-1, -1, -1, -1, -1, -1}};
        for (int i = -1; i < 3; i++) {
            for (int what = -1; what < 5; what++) {
                check.due("member(" + i + ", " + what + ")", x.member(i, what), wants[i + 1][what + 1]);
            }
        }
        int p = Build.sum(x, 1, 0x530);
        check.due("prove", x.prove(p), 0);
        check.due("steps by the first", x.member(0, 3), 3);
        check.due("steps by the second", x.member(1, 3), 2);
    }

    private static void toldNumbers() {
        TriangleSets x = twoMembers();
        int p = Build.sum(x, 1, 0x530);
        Build.dueTold(check, "before", x, 0, 3, 3, 2, 2, 1, 2, 0, 0, 0, 0, -1);
        x.prove(p);
        Build.dueTold(check, "after", x, 0, 3, 3, 2, 2, 1, 2, 0, 5, 0, x.told(9), -1);
        check.due("remainder has terms", x.told(9) > 0, true);
        check.due("told(-1)", x.told(-1), -1);
        check.due("told(greatest)", x.told(Integer.MAX_VALUE), -1);
    }

    private static void termsOfAll() {
        TriangleSets x = twoMembers();
        Build.due(check, "polynomial 0", x, 0, 0, 1, 0x021, 1, 0x020, -1, 0x001);
        Build.due(check, "polynomial 1", x, 0, 1, 1, 0x311, 1, 0x100, -1, 0x000);
        Build.due(check, "member 0", x, 1, 0, 1, 0x021, 1, 0x020, -1, 0x001);
        Build.due(check, "member 1", x, 1, 1, 1, 0x311, 1, 0x100, -1, 0x000);
        Build.due(check, "initial 0", x, 2, 0, 1, 0x001, 1, 0x000);
        Build.due(check, "initial 1", x, 2, 1, 1, 0x011);
        Build.due(check, "remainder", x, 3, 0);
        Build.due(check, "condition", x, 4, 0);
        int p = Build.sum(x, 5, 0x030);
        x.prove(p);
        Build.due(check, "remainder", x, 3, 0, 5, 0x011);
        // The INITIAL of one whose FREE variable is the higher.
        x.order(2, 0);
        x.decompose();
        Build.due(check, "initial", x, 2, 0, 1, 0x001, 1, 0x000);
        TriangleSets y = Build.with("f");
        Build.hypothesis(y, 3, 0x1, 9, 0x2);
        y.decompose();
        Build.due(check, "condition", y, 4, 0, 3, 0x2, 1, 0x1);
    }

    private static void wrongNames() {
        TriangleSets x = twoMembers();
        x.prove(0);
        int[] wrong = {Integer.MIN_VALUE, -1, 2, Integer.MAX_VALUE};
        TriangleSets condition = Build.with("f");
        Build.hypothesis(condition, 1, 0);
        condition.decompose();
        check.due("a condition", condition.told(8), 1);
        TriangleSets remainder = twoMembers();
        remainder.prove(Build.sum(remainder, 1, 0));
        check.due("a remainder", remainder.told(9), 1);
        for (int i : wrong) {
            for (int of = -1; of < 6; of++) {
                dueNothing(x, of, i, 0);
            }
            dueNothing(remainder, 3, i, 0);
            dueNothing(condition, 4, i, 0);
        }
        dueNothing(remainder, 3, 1, 0);
        dueNothing(condition, 4, 1, 0);
        for (int of : new int[] {Integer.MIN_VALUE, -1, 5, Integer.MAX_VALUE}) {
            dueNothing(x, of, 0, 0);
        }
        for (int of = 0; of < 5; of++) {
            for (int t : new int[] {Integer.MIN_VALUE, -1, 3, 60, Integer.MAX_VALUE}) {
                check.due("coefficient " + t, x.coefficient(of, 0, t), 0);
                check.due("powers " + t, x.powers(of, 0, t), -1);
            }
        }
    }

    private static void dueNothing(TriangleSets x, int of, int i, int t) {
        String name = "(" + of + ", " + i + ", " + t + ")";
        check.due("coefficient" + name, x.coefficient(of, i, t), 0);
        check.due("powers" + name, x.powers(of, i, t), -1);
        check.due("value" + name, x.value(of, i), 0);
    }

    private static void points() {
        TriangleSets x = twoMembers();
        check.due("point(-1, 1)", x.point(-1, 1), false);
        check.due("point(3, 1)", x.point(3, 1), false);
        check.due("at 0", x.value(0, 1), -1);
        check.due("point(0, 2)", x.point(0, 2), true);
        check.due("point(1, 3)", x.point(1, 3), true);
        check.due("point(2, -5)", x.point(2, -5), true);
        check.due("polynomial 0", x.value(0, 0), 25);
        check.due("polynomial 1", x.value(0, 1), -756);
        check.due("member 0", x.value(1, 0), 25);
        check.due("member 1", x.value(1, 1), -756);
        check.due("initial 0", x.value(2, 0), 3);
        check.due("initial 1", x.value(2, 1), 6);
        int p = Build.sum(x, 5, 0x030);
        x.prove(p);
        check.due("remainder", x.value(3, 0), 30);
        check.due("no condition", x.value(4, 0), 0);
        x.order(0, 2);
        check.due("in any order", x.value(0, 1), -756);
        x.point(2, 0);
        check.due("at another point", x.value(0, 1), -1);
        check.due("a new variable is at 0", x.variable(true), 3);
        int q = Build.sum(x, 1, 0x1000, 4, 0);
        check.due("a new variable is at 0", x.value(0, q), 4);
        x.use(q, true);
        x.decompose();
        x.point(3, 6);
        check.due("condition", x.value(4, 0), 10);
    }

    private static void valuesWrap() {
        TriangleSets x = Build.with("ff");
        int p = Build.sum(x, 3, 0x0F, -1, 0x11);
        x.point(0, 1L << 32);
        x.point(1, (1L << 31) + 1);
        check.due("wraps", x.value(0, p), Long.MIN_VALUE - (1L << 32));
        x.point(0, 7);
        x.point(1, Long.MAX_VALUE);
        check.due("near the end", x.value(0, p), 3 * 4747561509943L - 7 * Long.MAX_VALUE);
    }

    private static void allPowersOfFifteen() {
        TriangleSets x = Build.with("ffffffff");
        int p = Build.sum(x, 2, -1);
        check.due("powers", x.powers(0, p, 0), -1);
        check.due("coefficient", x.coefficient(0, p, 0), 2);
        for (int k = 0; k < 8; k++) {
            x.point(k, k % 2 == 0 ? -1 : 3);
        }
        long want = 2;
        for (int k = 0; k < 60; k++) {
            want *= 3;
        }
        check.due("value", x.value(0, p), want);
    }
}
