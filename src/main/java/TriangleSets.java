import java.util.Arrays;

/**
 * Polynomials that are said to be 0, brought into a triangle by pseudo-division, so that a further
 * one is shown to be 0 wherever these are and their initials are not, or its remainder is told.
 */
public final class TriangleSets {
    public static final int NONE = -1;

    private static final int MOST_VARIABLES = 8;
    private static final int MOST_POLYNOMIALS = 16;
    private static final int MOST_TERMS = 60;
    private static final long MOST_COEFFICIENT = 1L << 26;
    private static final int MOST_ROWS = 40;
    private static final int MOST_ROUNDS = 12;
    private static final int STEPS_OF_REDUCING = 200;
    private static final int STEPS_OF_DECOMPOSING = 1000;

    // A key has eight bits for each place of THE ORDER, the highest place highest: keys compare as
    // TERMS do, and the sum of two powers of 15 never runs into the next place.
    private static final int KEY_BITS = 8;
    private static final int KEY_MASK = 255;
    private static final long KEY_BITS_ABOVE_15 = 0xF0F0F0F0F0F0F0F0L;
    private static final int POWER_BITS = 4;
    private static final int POWER_MASK = 15;

    // A STEP multiplies 60 by 60 TERMS at most (those that cancel are left out), and the room for
    // one more POLYNOMIAL lets the guard look at the whole of what is added.
    private static final int MOST_PRODUCTS = (MOST_TERMS + 1) * MOST_TERMS;

    private static final int IS_CONDITION = 0;
    private static final int IS_DONE = 1;
    private static final int IS_SPENT = 2;
    private static final int GOES_ON = 3;

    private static final int OF_POLYNOMIAL = 0;
    private static final int OF_MEMBER = 1;
    private static final int OF_INITIAL = 2;
    private static final int OF_REMAINDER = 3;
    private static final int OF_CONDITION = 4;

    private final Places places;
    private final Polynomial[] polynomials;
    private final boolean[] hypotheses;
    private int polynomialCount;
    private final Row[] rows;
    private int rowCount;
    // THE BASE while it decomposes, THE SET afterwards; without members there is no SET.
    private final Triangle set;
    private final Stepper stepper;
    // None of these two is held as 0, which answers the same.
    private final Polynomial condition;
    private final Polynomial remainder;
    // What the latest prove() that was 0 or 1 reduced: from it the quotients are made again.
    private final Polynomial proved;
    private final int[] provedSteps;
    private final Polynomial work;
    private final int[] workSteps;
    private int workStepCount;
    private int decomposeRounds;
    private int decomposeSteps;
    private int proveSteps;

    public TriangleSets() {
        places = new Places();
        polynomials = new Polynomial[MOST_POLYNOMIALS];
        for (int i = 0; i < MOST_POLYNOMIALS; i++) {
            polynomials[i] = new Polynomial();
        }
        hypotheses = new boolean[MOST_POLYNOMIALS];
        rows = new Row[MOST_ROWS];
        for (int i = 0; i < MOST_ROWS; i++) {
            rows[i] = new Row();
        }
        set = new Triangle();
        stepper = new Stepper();
        condition = new Polynomial();
        remainder = new Polynomial();
        proved = new Polynomial();
        provedSteps = new int[MOST_VARIABLES];
        work = new Polynomial();
        workSteps = new int[MOST_VARIABLES];
    }

    public int variable(boolean free) {
        int made = places.append(free);
        if (made != NONE) {
            forgetSet();
        }
        return made;
    }

    public boolean order(int i, int variable) {
        if (!places.has(i) || !places.has(variable)) {
            return false;
        }
        int from = places.placeOf(variable);
        if (from != NONE && from != i) {
            moveVariable(from, i);
            forgetSet();
        }
        return true;
    }

    public int polynomial() {
        if (polynomialCount >= MOST_POLYNOMIALS) {
            return NONE;
        }
        polynomialCount++;
        return polynomialCount - 1;
    }

    public boolean term(int polynomial, long v, int powers) {
        if (!hasPolynomial(polynomial) || !places.haveAllOf(powers)) {
            return false;
        }
        if (v == 0) {
            return true;
        }
        if (!polynomials[polynomial].add(places.keyOf(powers), v)) {
            return false;
        }
        if (hypotheses[polynomial]) {
            forgetSet();
        }
        return true;
    }

    public boolean use(int polynomial, boolean is) {
        if (!hasPolynomial(polynomial) || hypotheses[polynomial] == is) {
            return false;
        }
        hypotheses[polynomial] = is;
        forgetSet();
        return true;
    }

    public int decompose() {
        // A refused call changes nothing: what the decompose() before it told stays told.
        if (!hasSomethingToDecompose()) {
            return NONE;
        }
        remainder.clear();
        if (set.size > 0) {
            return IS_DONE;
        }
        condition.clear();
        decomposeRounds = 0;
        decomposeSteps = 0;
        takeHypotheses();
        int answer = tellConditionOfRows() ? IS_CONDITION : GOES_ON;
        while (answer == GOES_ON && decomposeRounds < MOST_ROUNDS) {
            decomposeRounds++;
            answer = makeRound();
        }
        if (answer != IS_DONE) {
            set.size = 0;
        }
        return answer == GOES_ON ? IS_SPENT : answer;
    }

    public int prove(int polynomial) {
        if (!hasPolynomial(polynomial) || set.size == 0) {
            return NONE;
        }
        remainder.clear();
        work.copy(polynomials[polynomial]);
        boolean done = reduceWork(STEPS_OF_REDUCING);
        proveSteps = workStepCount;
        if (!done) {
            return IS_SPENT;
        }
        proved.copy(polynomials[polynomial]);
        System.arraycopy(workSteps, 0, provedSteps, 0, MOST_VARIABLES);
        remainder.copy(work);
        return remainder.count == 0 ? 1 : 0;
    }

    public int member(int i, int what) {
        if (!hasMember(i)) {
            return NONE;
        }
        Row row = set.members[i];
        switch (what) {
            case 0:
                return places.variableAt(row.place);
            case 1:
                return row.degree;
            case 2:
                return row.sum.count;
            case 3:
                return provedSteps[i];
            default:
                return NONE;
        }
    }

    public int told(int what) {
        switch (what) {
            case 0:
                return places.count;
            case 1:
                return polynomialCount;
            case 2:
                return hypothesisCount();
            case 3:
                return set.size;
            case 4:
                return decomposeRounds;
            case 5:
                return rowCount;
            case 6:
                return decomposeSteps;
            case 7:
                return proveSteps;
            case 8:
                return condition.count;
            case 9:
                return remainder.count;
            default:
                return NONE;
        }
    }

    public long coefficient(int of, int i, int t) {
        Polynomial found = find(of, i);
        if (found == null || !found.hasTerm(t)) {
            return 0;
        }
        return found.factors[t];
    }

    public int powers(int of, int i, int t) {
        Polynomial found = find(of, i);
        if (found == null || !found.hasTerm(t)) {
            return NONE;
        }
        return places.powersOf(found.keys[t]);
    }

    public boolean point(int variable, long v) {
        if (!places.has(variable)) {
            return false;
        }
        places.point[variable] = v;
        return true;
    }

    public long value(int of, int i) {
        Polynomial found = find(of, i);
        return found == null ? 0 : places.valueOf(found);
    }

    public long quotient(int i) {
        if (!hasMember(i)) {
            return 0;
        }
        work.copy(proved);
        long sum = 0;
        int m = set.size - 1;
        for (int made = 0; made < STEPS_OF_REDUCING; made++) {
            m = set.dueAtOrBelow(m, work);
            if (m == NONE) {
                break;
            }
            Row by = set.members[m];
            sum *= places.valueOfLead(by.sum, by.place, by.degree, by.degree);
            if (m == i) {
                sum += places.valueOfLead(work, by.place, work.degree(by.place), by.degree);
            }
            if (!stepper.step(work, by)) {
                break;
            }
        }
        return sum;
    }

    public long pseudo(long a, long b) throws ArithmeticException {
        if (b == 0) {
            throw new ArithmeticException("b is 0");
        }
        return (a << 32) / b;
    }

    private boolean hasPolynomial(int i) {
        return i >= 0 && i < polynomialCount;
    }

    private boolean hasMember(int i) {
        return i >= 0 && i < set.size;
    }

    private int hypothesisCount() {
        int count = 0;
        for (int i = 0; i < polynomialCount; i++) {
            if (hypotheses[i]) {
                count++;
            }
        }
        return count;
    }

    /** The POLYNOMIAL that coefficient(), powers() and value() name so, or null. */
    private Polynomial find(int of, int i) {
        if (of == OF_POLYNOMIAL && hasPolynomial(i)) {
            return polynomials[i];
        }
        if (of == OF_MEMBER && hasMember(i)) {
            return set.members[i].sum;
        }
        if (of == OF_INITIAL && hasMember(i)) {
            work.copyInitial(set.members[i]);
            return work;
        }
        if (of == OF_REMAINDER && i == 0) {
            return remainder;
        }
        if (of == OF_CONDITION && i == 0) {
            return condition;
        }
        return null;
    }

    private void forgetSet() {
        set.size = 0;
        remainder.clear();
        proved.clear();
        Arrays.fill(provedSteps, 0);
    }

    /** Only what outlives a change of THE ORDER is laid anew: all else is none after it. */
    private void moveVariable(int from, int to) {
        for (int i = 0; i < polynomialCount; i++) {
            places.keysToPowers(polynomials[i]);
        }
        places.keysToPowers(condition);
        places.move(from, to);
        for (int i = 0; i < polynomialCount; i++) {
            places.powersToKeys(polynomials[i]);
        }
        places.powersToKeys(condition);
    }

    private boolean comesToRows(int i) {
        return hypotheses[i] && polynomials[i].count > 0;
    }

    private boolean hasSomethingToDecompose() {
        for (int i = 0; i < polynomialCount; i++) {
            if (comesToRows(i)) {
                return true;
            }
        }
        return false;
    }

    private void takeHypotheses() {
        rowCount = 0;
        for (int i = 0; i < polynomialCount; i++) {
            if (comesToRows(i) && rowCount < MOST_ROWS) {
                rows[rowCount].take(polynomials[i], places);
                rowCount++;
            }
        }
    }

    private boolean tellConditionOfRows() {
        for (int r = 0; r < rowCount; r++) {
            if (rows[r].place == NONE) {
                condition.copy(rows[r].sum);
                return true;
            }
        }
        return false;
    }

    private int makeRound() {
        int before = rowCount;
        set.takeBase(rows, before);
        for (int r = 0; r < before; r++) {
            if (set.holds(rows[r])) {
                continue;
            }
            int answer = reduceRow(rows[r]);
            if (answer != GOES_ON) {
                return answer;
            }
        }
        return rowCount == before ? IS_DONE : GOES_ON;
    }

    private int reduceRow(Row row) {
        work.copy(row.sum);
        boolean done = reduceWork(Math.min(STEPS_OF_REDUCING, STEPS_OF_DECOMPOSING - decomposeSteps));
        decomposeSteps += workStepCount;
        if (!done) {
            return IS_SPENT;
        }
        work.makePrimitive();
        if (work.count == 0 || rowsHold(work)) {
            return GOES_ON;
        }
        if (places.mainPlace(work) == NONE) {
            condition.copy(work);
            return IS_CONDITION;
        }
        if (rowCount >= MOST_ROWS) {
            return IS_SPENT;
        }
        rows[rowCount].take(work, places);
        rowCount++;
        return GOES_ON;
    }

    private boolean rowsHold(Polynomial f) {
        for (int r = 0; r < rowCount; r++) {
            if (rows[r].sum.isSameAs(f)) {
                return true;
            }
        }
        return false;
    }

    /** REDUCES what is in work by the triangle; false when that is SPENT. */
    private boolean reduceWork(int mostSteps) {
        workStepCount = 0;
        Arrays.fill(workSteps, 0);
        int m = set.size - 1;
        for (int made = 0; made <= mostSteps; made++) {
            m = set.dueAtOrBelow(m, work);
            if (m == NONE) {
                return true;
            }
            if (made == mostSteps || !stepper.step(work, set.members[m])) {
                return false;
            }
            workStepCount++;
            workSteps[m]++;
        }
        return false;
    }

    private static int powerAt(long key, int place) {
        return (int) (key >>> (KEY_BITS * place)) & KEY_MASK;
    }

    private static boolean isSoundCoefficient(long v) {
        return v >= -MOST_COEFFICIENT && v <= MOST_COEFFICIENT;
    }

    private static long greatestCommonDivisor(long a, long b) {
        long x = a;
        long y = b;
        // Each turn makes y less, and every second one halves it: 64 bits have no more turns.
        for (int turn = 0; turn < 128 && y != 0; turn++) {
            long rest = x % y;
            x = y;
            y = rest;
        }
        return x;
    }

    /** A SOUND sum of TERMS, in the order of TERMS. */
    private static final class Polynomial {
        final long[] keys = new long[MOST_TERMS];
        final long[] factors = new long[MOST_TERMS];
        int count;

        void clear() {
            count = 0;
        }

        boolean hasTerm(int t) {
            return t >= 0 && t < count;
        }

        void copy(Polynomial other) {
            System.arraycopy(other.keys, 0, keys, 0, other.count);
            System.arraycopy(other.factors, 0, factors, 0, other.count);
            count = other.count;
        }

        void copyInitial(Row row) {
            Polynomial from = row.sum;
            long lead = (long) row.degree << (KEY_BITS * row.place);
            count = 0;
            for (int t = 0; t < from.count; t++) {
                if (powerAt(from.keys[t], row.place) == row.degree) {
                    keys[count] = from.keys[t] - lead;
                    factors[count] = from.factors[t];
                    count++;
                }
            }
        }

        boolean isSameAs(Polynomial other) {
            if (count != other.count) {
                return false;
            }
            for (int t = 0; t < count; t++) {
                if (keys[t] != other.keys[t] || factors[t] != other.factors[t]) {
                    return false;
                }
            }
            return true;
        }

        int degree(int place) {
            int greatest = 0;
            for (int t = 0; t < count; t++) {
                greatest = Math.max(greatest, powerAt(keys[t], place));
            }
            return greatest;
        }

        /** Adds v (not 0) times the key's powers; false, and no change, when that is not SOUND. */
        boolean add(long key, long v) {
            // A greater v can't be made SOUND by any coefficient, and its sum could wrap.
            if (v < -2 * MOST_COEFFICIENT || v > 2 * MOST_COEFFICIENT) {
                return false;
            }
            int t = 0;
            while (t < count && keys[t] > key) {
                t++;
            }
            boolean known = t < count && keys[t] == key;
            long sum = known ? factors[t] + v : v;
            if (!isSoundCoefficient(sum) || (!known && count >= MOST_TERMS)) {
                return false;
            }
            if (!known) {
                openGap(t);
                keys[t] = key;
            }
            factors[t] = sum;
            if (sum == 0) {
                closeGap(t);
            }
            return true;
        }

        private void openGap(int t) {
            System.arraycopy(keys, t, keys, t + 1, count - t);
            System.arraycopy(factors, t, factors, t + 1, count - t);
            count++;
        }

        private void closeGap(int t) {
            System.arraycopy(keys, t + 1, keys, t, count - t - 1);
            System.arraycopy(factors, t + 1, factors, t, count - t - 1);
            count--;
        }

        void makePrimitive() {
            if (count == 0) {
                return;
            }
            long divisor = 0;
            for (int t = 0; t < count; t++) {
                divisor = greatestCommonDivisor(Math.abs(factors[t]), divisor);
            }
            if (factors[0] < 0) {
                divisor = -divisor;
            }
            if (divisor == 0 || divisor == 1) {
                return;
            }
            for (int t = 0; t < count; t++) {
                factors[t] /= divisor;
            }
        }

        void sort() {
            for (int t = 1; t < count; t++) {
                long key = keys[t];
                long factor = factors[t];
                int to = t;
                while (to > 0 && keys[to - 1] < key) {
                    keys[to] = keys[to - 1];
                    factors[to] = factors[to - 1];
                    to--;
                }
                keys[to] = key;
                factors[to] = factor;
            }
        }
    }

    /** The VARIABLES with THE ORDER and THE POINT. */
    private static final class Places {
        int count;
        final boolean[] free = new boolean[MOST_VARIABLES];
        final long[] point = new long[MOST_VARIABLES];
        private final int[] variables = new int[MOST_VARIABLES];

        /** There are as many places as VARIABLES, so this asks for either. */
        boolean has(int i) {
            return i >= 0 && i < count;
        }

        int append(boolean isFree) {
            if (count >= MOST_VARIABLES) {
                return NONE;
            }
            free[count] = isFree;
            variables[count] = count;
            count++;
            return count - 1;
        }

        int variableAt(int place) {
            return has(place) ? variables[place] : NONE;
        }

        int placeOf(int variable) {
            for (int p = 0; p < count; p++) {
                if (variables[p] == variable) {
                    return p;
                }
            }
            return NONE;
        }

        void move(int from, int to) {
            int variable = variables[from];
            for (int p = from; p < to; p++) {
                variables[p] = variables[p + 1];
            }
            for (int p = from; p > to; p--) {
                variables[p] = variables[p - 1];
            }
            variables[to] = variable;
        }

        boolean haveAllOf(int powers) {
            return count >= MOST_VARIABLES || powers >>> (POWER_BITS * count) == 0;
        }

        long keyOf(int powers) {
            long key = 0;
            for (int p = 0; p < count; p++) {
                long power = (powers >>> (POWER_BITS * variables[p])) & POWER_MASK;
                key |= power << (KEY_BITS * p);
            }
            return key;
        }

        int powersOf(long key) {
            int powers = 0;
            for (int p = 0; p < count; p++) {
                powers |= powerAt(key, p) << (POWER_BITS * variables[p]);
            }
            return powers;
        }

        void keysToPowers(Polynomial f) {
            for (int t = 0; t < f.count; t++) {
                f.keys[t] = powersOf(f.keys[t]);
            }
        }

        void powersToKeys(Polynomial f) {
            for (int t = 0; t < f.count; t++) {
                f.keys[t] = keyOf((int) f.keys[t]);
            }
            f.sort();
        }

        /** The place of the MAIN VARIABLE, or NONE. */
        int mainPlace(Polynomial f) {
            for (int p = count - 1; p >= 0; p--) {
                if (!free[variables[p]] && f.degree(p) > 0) {
                    return p;
                }
            }
            return NONE;
        }

        long valueOf(Polynomial f) {
            long sum = 0;
            for (int t = 0; t < f.count; t++) {
                sum += f.factors[t] * valueOfKey(f.keys[t]);
            }
            return sum;
        }

        /** The value of the TERMS of f with that power at a place, divided by the power taken there. */
        long valueOfLead(Polynomial f, int place, int power, int taken) {
            long takenKey = (long) taken << (KEY_BITS * place);
            long sum = 0;
            for (int t = 0; t < f.count; t++) {
                if (powerAt(f.keys[t], place) == power) {
                    sum += f.factors[t] * valueOfKey(f.keys[t] - takenKey);
                }
            }
            return sum;
        }

        private long valueOfKey(long key) {
            long product = 1;
            for (int p = 0; p < count; p++) {
                int power = powerAt(key, p);
                for (int k = 0; k < power; k++) {
                    product *= point[variables[p]];
                }
            }
            return product;
        }
    }

    /** One of ROWS: a PRIMITIVE, with the place of its MAIN VARIABLE and its DEGREE in it. */
    private static final class Row {
        final Polynomial sum = new Polynomial();
        int place = NONE;
        int degree;

        void take(Polynomial f, Places places) {
            sum.copy(f);
            sum.makePrimitive();
            place = places.mainPlace(sum);
            degree = place == NONE ? 0 : sum.degree(place);
        }

        /** Of like ones that which came before is the lesser: its asker goes through ROWS in order. */
        boolean isLessThan(Row other) {
            if (place != other.place) {
                return place < other.place;
            }
            if (degree != other.degree) {
                return degree < other.degree;
            }
            return sum.count < other.sum.count;
        }
    }

    /** Rows with ever higher MAIN VARIABLES, each of less DEGREE in those of the ones before. */
    private static final class Triangle {
        final Row[] members = new Row[MOST_VARIABLES];
        int size;

        void takeBase(Row[] rows, int count) {
            size = 0;
            while (size < MOST_VARIABLES) {
                Row least = leastThatFits(rows, count);
                if (least == null) {
                    return;
                }
                members[size] = least;
                size++;
            }
        }

        private Row leastThatFits(Row[] rows, int count) {
            Row least = null;
            for (int r = 0; r < count; r++) {
                if (fits(rows[r]) && (least == null || rows[r].isLessThan(least))) {
                    least = rows[r];
                }
            }
            return least;
        }

        private boolean fits(Row row) {
            if (size > 0 && row.place <= members[size - 1].place) {
                return false;
            }
            for (int m = 0; m < size; m++) {
                if (row.sum.degree(members[m].place) >= members[m].degree) {
                    return false;
                }
            }
            return true;
        }

        boolean holds(Row row) {
            for (int m = 0; m < size; m++) {
                if (members[m] == row) {
                    return true;
                }
            }
            return false;
        }

        /** The last member, from m downwards, by which a STEP of f is due, or NONE. */
        int dueAtOrBelow(int m, Polynomial f) {
            if (f.count == 0 || m >= size) {
                return NONE;
            }
            for (int k = m; k >= 0; k--) {
                if (f.degree(members[k].place) >= members[k].degree) {
                    return k;
                }
            }
            return NONE;
        }
    }

    /** Makes STEPS in a room that is larger than a SOUND POLYNOMIAL, for within a STEP all goes. */
    private static final class Stepper {
        private long[] keys = new long[MOST_PRODUCTS];
        private long[] factors = new long[MOST_PRODUCTS];
        private long[] otherKeys = new long[MOST_PRODUCTS];
        private long[] otherFactors = new long[MOST_PRODUCTS];
        private int count;

        /**
         * The STEP of f by a row; false, and f as it was, when what it makes is not SOUND. The TERMS
         * with x^d of both products are the same and cancel, so they are not made at all.
         */
        boolean step(Polynomial f, Row by) {
            Polynomial b = by.sum;
            int d = f.degree(by.place);
            long lead = (long) by.degree << (KEY_BITS * by.place);
            boolean roomy = true;
            count = 0;
            for (int t = 0; t < b.count; t++) {
                if (powerAt(b.keys[t], by.place) == by.degree) {
                    roomy &= addMultiple(b.keys[t] - lead, b.factors[t], f, by.place, d);
                }
            }
            for (int t = 0; t < f.count; t++) {
                if (powerAt(f.keys[t], by.place) == d) {
                    roomy &= addMultiple(f.keys[t] - lead, -f.factors[t], b, by.place, by.degree);
                }
            }
            if (!roomy || !isSound()) {
                return false;
            }
            store(f);
            return true;
        }

        /** Adds key and factor times f without its TERMS that have the power left out at a place. */
        private boolean addMultiple(long key, long factor, Polynomial f, int place, int leftOut) {
            if (count + f.count > MOST_PRODUCTS) {
                return false;
            }
            int from = 0;
            int made = 0;
            for (int t = 0; t < f.count; t++) {
                if (powerAt(f.keys[t], place) == leftOut) {
                    continue;
                }
                long k = f.keys[t] + key;
                long v = f.factors[t] * factor;
                while (from < count && keys[from] > k) {
                    otherKeys[made] = keys[from];
                    otherFactors[made] = factors[from];
                    from++;
                    made++;
                }
                if (from < count && keys[from] == k) {
                    v += factors[from];
                    from++;
                }
                if (v != 0) {
                    otherKeys[made] = k;
                    otherFactors[made] = v;
                    made++;
                }
            }
            System.arraycopy(keys, from, otherKeys, made, count - from);
            System.arraycopy(factors, from, otherFactors, made, count - from);
            count = made + count - from;
            swap();
            return true;
        }

        private void swap() {
            long[] keptKeys = keys;
            long[] keptFactors = factors;
            keys = otherKeys;
            factors = otherFactors;
            otherKeys = keptKeys;
            otherFactors = keptFactors;
        }

        private boolean isSound() {
            if (count > MOST_TERMS) {
                return false;
            }
            for (int t = 0; t < count; t++) {
                if (!isSoundCoefficient(factors[t]) || (keys[t] & KEY_BITS_ABOVE_15) != 0) {
                    return false;
                }
            }
            return true;
        }

        private void store(Polynomial f) {
            System.arraycopy(keys, 0, f.keys, 0, count);
            System.arraycopy(factors, 0, f.factors, 0, count);
            f.count = count;
        }
    }
}
