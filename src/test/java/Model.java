import java.math.BigInteger;
import java.util.ArrayList;
import java.util.HashMap;
import java.util.List;
import java.util.Map;

/**
 * The document once more, written down as plainly as the Java library lets it be: sums are maps of
 * whole numbers without a limit, nothing is left out and nothing is kept sorted.
 */
final class Model {
    static final int NONE = -1;
    private static final BigInteger LIMIT = BigInteger.ONE.shiftLeft(26);

    /** A sum of terms: powers of all eight variables to coefficient. */
    static final class Sum extends HashMap<List<Integer>, BigInteger> {
        private static final long serialVersionUID = 1L;

        Sum() {
        }

        Sum(Map<List<Integer>, BigInteger> other) {
            super(other);
        }

        void plus(List<Integer> powers, BigInteger v) {
            BigInteger sum = getOrDefault(powers, BigInteger.ZERO).add(v);
            if (sum.signum() == 0) {
                remove(powers);
            } else {
                put(powers, sum);
            }
        }

        Sum times(Sum other) {
            Sum product = new Sum();
            for (Map.Entry<List<Integer>, BigInteger> a : entrySet()) {
                for (Map.Entry<List<Integer>, BigInteger> b : other.entrySet()) {
                    List<Integer> powers = new ArrayList<>();
                    for (int k = 0; k < 8; k++) {
                        powers.add(a.getKey().get(k) + b.getKey().get(k));
                    }
                    product.plus(powers, a.getValue().multiply(b.getValue()));
                }
            }
            return product;
        }

        Sum minus(Sum other) {
            Sum rest = new Sum(this);
            for (Map.Entry<List<Integer>, BigInteger> b : other.entrySet()) {
                rest.plus(b.getKey(), b.getValue().negate());
            }
            return rest;
        }

        int degree(int variable) {
            int greatest = 0;
            for (List<Integer> powers : keySet()) {
                greatest = Math.max(greatest, powers.get(variable));
            }
            return greatest;
        }

        /** What stands with that power of the variable, times x^more. */
        Sum standsWith(int variable, int power, int more) {
            Sum part = new Sum();
            for (Map.Entry<List<Integer>, BigInteger> a : entrySet()) {
                if (a.getKey().get(variable) == power) {
                    List<Integer> powers = new ArrayList<>(a.getKey());
                    powers.set(variable, more);
                    part.plus(powers, a.getValue());
                }
            }
            return part;
        }

        boolean isSound() {
            if (size() > 60) {
                return false;
            }
            for (Map.Entry<List<Integer>, BigInteger> a : entrySet()) {
                if (a.getValue().abs().compareTo(LIMIT) > 0) {
                    return false;
                }
                for (int power : a.getKey()) {
                    if (power > 15) {
                        return false;
                    }
                }
            }
            return true;
        }

        long at(List<Long> point) {
            BigInteger sum = BigInteger.ZERO;
            for (Map.Entry<List<Integer>, BigInteger> a : entrySet()) {
                BigInteger product = a.getValue();
                for (int k = 0; k < point.size(); k++) {
                    product = product.multiply(BigInteger.valueOf(point.get(k)).pow(a.getKey().get(k)));
                }
                sum = sum.add(product);
            }
            return sum.longValue();
        }
    }

    /** A step that a reducing made: by which member, with which initial, and L x^(d - e). */
    private record Step(int member, Sum initial, Sum lead) {
    }

    private static final class Spent extends Exception {
        private static final long serialVersionUID = 1L;
    }

    private final List<Boolean> free = new ArrayList<>();
    private final List<Integer> order = new ArrayList<>();
    private final List<Long> point = new ArrayList<>();
    private final List<Sum> polynomials = new ArrayList<>();
    private final List<Boolean> hypotheses = new ArrayList<>();
    private List<Sum> rows = new ArrayList<>();
    private List<Sum> set;
    private Sum condition;
    private Sum remainder;
    private List<Step> proof;
    private int rounds;
    private int decomposeSteps;
    private int proveSteps;
    private int stepsMade;

    int variable(boolean isFree) {
        if (free.size() == 8) {
            return NONE;
        }
        order.add(free.size());
        free.add(isFree);
        point.add(0L);
        changed();
        return free.size() - 1;
    }

    boolean order(int i, int variable) {
        if (i < 0 || i >= free.size() || variable < 0 || variable >= free.size()) {
            return false;
        }
        List<Integer> before = new ArrayList<>(order);
        order.remove((Integer) variable);
        order.add(i, variable);
        if (!order.equals(before)) {
            changed();
        }
        return true;
    }

    int polynomial() {
        if (polynomials.size() == 16) {
            return NONE;
        }
        polynomials.add(new Sum());
        hypotheses.add(false);
        return polynomials.size() - 1;
    }

    boolean term(int polynomial, long v, int powers) {
        if (polynomial < 0 || polynomial >= polynomials.size()) {
            return false;
        }
        List<Integer> list = new ArrayList<>();
        for (int k = 0; k < 8; k++) {
            list.add((powers >>> 4 * k) & 15);
            if (list.get(k) != 0 && k >= free.size()) {
                return false;
            }
        }
        Sum sum = new Sum(polynomials.get(polynomial));
        sum.plus(list, BigInteger.valueOf(v));
        if (!sum.isSound()) {
            return false;
        }
        if (!sum.equals(polynomials.get(polynomial)) && hypotheses.get(polynomial)) {
            changed();
        }
        polynomials.set(polynomial, sum);
        return true;
    }

    boolean use(int polynomial, boolean is) {
        if (polynomial < 0 || polynomial >= polynomials.size() || hypotheses.get(polynomial) == is) {
            return false;
        }
        hypotheses.set(polynomial, is);
        changed();
        return true;
    }

    int decompose() {
        List<Sum> first = new ArrayList<>();
        for (int i = 0; i < polynomials.size(); i++) {
            if (hypotheses.get(i) && !polynomials.get(i).isEmpty()) {
                first.add(primitive(polynomials.get(i)));
            }
        }
        if (first.isEmpty()) {
            return NONE;
        }
        remainder = null;
        if (set != null) {
            return 1;
        }
        condition = null;
        rounds = 0;
        decomposeSteps = 0;
        rows = first;
        for (Sum row : rows) {
            if (main(row) == NONE) {
                condition = row;
                return 0;
            }
        }
        try {
            return makeRounds();
        } catch (Spent spent) {
            return 2;
        }
    }

    private int makeRounds() throws Spent {
        for (int round = 1; round <= 12; round++) {
            rounds = round;
            List<Sum> base = base();
            int before = rows.size();
            for (int r = 0; r < before; r++) {
                if (isIn(base, rows.get(r))) {
                    continue;
                }
                Sum left;
                try {
                    left = primitive(reduce(rows.get(r), base, Math.min(200, 1000 - decomposeSteps), null));
                } finally {
                    decomposeSteps += stepsMade;
                }
                if (left.isEmpty() || rows.contains(left)) {
                    continue;
                }
                if (main(left) == NONE) {
                    condition = left;
                    return 0;
                }
                if (rows.size() == 40) {
                    throw new Spent();
                }
                rows.add(left);
            }
            if (rows.size() == before) {
                set = base;
                return 1;
            }
        }
        throw new Spent();
    }

    private static boolean isIn(List<Sum> base, Sum row) {
        for (Sum b : base) {
            if (b == row) {
                return true;
            }
        }
        return false;
    }

    private List<Sum> base() {
        List<Sum> base = new ArrayList<>();
        while (true) {
            Sum least = null;
            for (Sum row : rows) {
                boolean fits = base.isEmpty()
                        || order.indexOf(main(row)) > order.indexOf(main(base.get(base.size() - 1)));
                for (Sum b : base) {
                    fits &= row.degree(main(b)) < b.degree(main(b));
                }
                if (fits && (least == null || isLess(row, least))) {
                    least = row;
                }
            }
            if (least == null) {
                return base;
            }
            base.add(least);
        }
    }

    private boolean isLess(Sum a, Sum b) {
        int mainA = main(a);
        int mainB = main(b);
        if (mainA != mainB) {
            return order.indexOf(mainA) < order.indexOf(mainB);
        }
        if (a.degree(mainA) != b.degree(mainA)) {
            return a.degree(mainA) < b.degree(mainA);
        }
        return a.size() < b.size();
    }

    private Sum reduce(Sum start, List<Sum> by, int mostSteps, List<Step> record) throws Spent {
        Sum f = start;
        stepsMade = 0;
        for (int m = by.size() - 1; m >= 0; m--) {
            Sum b = by.get(m);
            int x = main(b);
            int e = b.degree(x);
            Sum initial = b.standsWith(x, e, 0);
            while (!f.isEmpty() && f.degree(x) >= e) {
                if (stepsMade == mostSteps) {
                    throw new Spent();
                }
                Sum lead = f.standsWith(x, f.degree(x), f.degree(x) - e);
                Sum next = initial.times(f).minus(lead.times(b));
                if (!next.isSound()) {
                    throw new Spent();
                }
                f = next;
                stepsMade++;
                if (record != null) {
                    record.add(new Step(m, initial, lead));
                }
            }
        }
        return f;
    }

    int prove(int polynomial) {
        if (polynomial < 0 || polynomial >= polynomials.size() || set == null) {
            return NONE;
        }
        List<Step> record = new ArrayList<>();
        remainder = null;
        try {
            remainder = reduce(polynomials.get(polynomial), set, 200, record);
            proof = record;
        } catch (Spent spent) {
            return 2;
        } finally {
            proveSteps = stepsMade;
        }
        return remainder.isEmpty() ? 1 : 0;
    }

    int member(int i, int what) {
        if (set == null || i < 0 || i >= set.size()) {
            return NONE;
        }
        Sum b = set.get(i);
        switch (what) {
            case 0:
                return main(b);
            case 1:
                return b.degree(main(b));
            case 2:
                return b.size();
            case 3:
                int steps = 0;
                for (int k = 0; proof != null && k < proof.size(); k++) {
                    steps += proof.get(k).member() == i ? 1 : 0;
                }
                return steps;
            default:
                return NONE;
        }
    }

    int told(int what) {
        int used = 0;
        for (boolean is : hypotheses) {
            used += is ? 1 : 0;
        }
        int[] numbers = {free.size(), polynomials.size(), used, set == null ? 0 : set.size(), rounds,
            rows.size(), decomposeSteps, proveSteps, condition == null ? 0 : condition.size(),
            remainder == null ? 0 : remainder.size()};
        return what < 0 || what >= numbers.length ? NONE : numbers[what];
    }

    long coefficient(int of, int i, int t) {
        Sum sum = find(of, i);
        return sum == null || t < 0 || t >= sum.size() ? 0 : sum.get(sorted(sum).get(t)).longValueExact();
    }

    int powers(int of, int i, int t) {
        Sum sum = find(of, i);
        if (sum == null || t < 0 || t >= sum.size()) {
            return NONE;
        }
        int powers = 0;
        for (int k = 0; k < 8; k++) {
            powers |= sorted(sum).get(t).get(k) << 4 * k;
        }
        return powers;
    }

    boolean point(int variable, long v) {
        if (variable < 0 || variable >= free.size()) {
            return false;
        }
        point.set(variable, v);
        return true;
    }

    long value(int of, int i) {
        Sum sum = find(of, i);
        return sum == null ? 0 : sum.at(point);
    }

    long quotient(int i) {
        if (set == null || i < 0 || i >= set.size() || proof == null) {
            return 0;
        }
        long sum = 0;
        for (Step step : proof) {
            sum *= step.initial().at(point);
            sum += step.member() == i ? step.lead().at(point) : 0;
        }
        return sum;
    }

    private Sum find(int of, int i) {
        boolean isMember = set != null && i >= 0 && i < set.size();
        switch (of) {
            case 0:
                return i >= 0 && i < polynomials.size() ? polynomials.get(i) : null;
            case 1:
                return isMember ? set.get(i) : null;
            case 2:
                if (!isMember) {
                    return null;
                }
                Sum b = set.get(i);
                return b.standsWith(main(b), b.degree(main(b)), 0);
            case 3:
                return i == 0 ? remainder : null;
            case 4:
                return i == 0 ? condition : null;
            default:
                return null;
        }
    }

    private void changed() {
        set = null;
        remainder = null;
        proof = null;
    }

    private int main(Sum f) {
        for (int place = order.size() - 1; place >= 0; place--) {
            int variable = order.get(place);
            if (!free.get(variable) && f.degree(variable) > 0) {
                return variable;
            }
        }
        return NONE;
    }

    private List<List<Integer>> sorted(Sum f) {
        List<List<Integer>> all = new ArrayList<>(f.keySet());
        all.sort((a, b) -> {
            for (int place = order.size() - 1; place >= 0; place--) {
                int variable = order.get(place);
                int compared = Integer.compare(b.get(variable), a.get(variable));
                if (compared != 0) {
                    return compared;
                }
            }
            return 0;
        });
        return all;
    }

    private Sum primitive(Sum f) {
        if (f.isEmpty()) {
            return f;
        }
        BigInteger divisor = BigInteger.ZERO;
        for (BigInteger v : f.values()) {
            divisor = divisor.gcd(v);
        }
        if (f.get(sorted(f).get(0)).signum() < 0) {
            divisor = divisor.negate();
        }
        Sum made = new Sum();
        for (Map.Entry<List<Integer>, BigInteger> a : f.entrySet()) {
            made.put(a.getKey(), a.getValue().divide(divisor));
        }
        return made;
    }
}
