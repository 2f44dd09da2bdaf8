/** Short ways to fill an object: a sum is a row of coefficient, powers, coefficient, powers, .. */
final class Build {
    private Build() {
    }

    /** An object with a VARIABLE for each letter, f for a FREE one and d for a dependent one. */
    static TriangleSets with(String kinds) {
        TriangleSets x = new TriangleSets();
        for (int k = 0; k < kinds.length(); k++) {
            x.variable(kinds.charAt(k) == 'f');
        }
        return x;
    }

    static int sum(TriangleSets x, long... terms) {
        int made = x.polynomial();
        for (int t = 0; t + 1 < terms.length; t += 2) {
            if (!x.term(made, terms[t], (int) terms[t + 1])) {
                throw new IllegalArgumentException("term " + t / 2 + " of " + made + " is refused");
            }
        }
        return made;
    }

    static int hypothesis(TriangleSets x, long... terms) {
        int made = sum(x, terms);
        x.use(made, true);
        return made;
    }

    /** Checks that a POLYNOMIAL has just these TERMS, in this order. */
    static void due(Check check, String name, TriangleSets x, int of, int i, long... terms) {
        int count = terms.length / 2;
        for (int t = 0; t < count; t++) {
            check.due(name + " coefficient " + t, x.coefficient(of, i, t), terms[2 * t]);
            check.due(name + " powers " + t, x.powers(of, i, t), terms[2 * t + 1]);
        }
        check.due(name + " coefficient behind the last", x.coefficient(of, i, count), 0);
        check.due(name + " powers behind the last", x.powers(of, i, count), TriangleSets.NONE);
    }

    /** Checks told(from), told(from + 1), .. */
    static void dueTold(Check check, String name, TriangleSets x, int from, int... wants) {
        for (int k = 0; k < wants.length; k++) {
            check.due(name + " told(" + (from + k) + ")", x.told(from + k), wants[k]);
        }
    }
}
