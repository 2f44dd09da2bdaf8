import java.util.Random;

/** Runs of up to 512 calls, drawn from fixed seeds, answered by the class and by the Model alike. */
public final class RandomRunsTest {
    // An object has 512 calls; what it answers to later ones is free.
    private static final int MOST_CALLS = 512;

    private final Check check;
    private final Random random;
    private final TriangleSets real = new TriangleSets();
    private final Model model = new Model();
    private final String run;
    private final int mostPower;
    private final int mostFactor;
    private final int mostTerms;
    private final boolean calm;
    private int calls;

    private RandomRunsTest(Check check, int seed) {
        this.check = check;
        this.random = new Random(seed);
        this.run = "run " + seed + " ";
        int[] powers = {1, 2, 2, 3, 4, 15};
        int[] factors = {1, 2, 3, 10, 1 << 13, 1 << 26};
        this.mostPower = powers[random.nextInt(powers.length)];
        this.mostFactor = factors[random.nextInt(factors.length)];
        this.mostTerms = random.nextInt(6) == 0 ? 40 : 4;
        this.calm = random.nextInt(3) > 0;
    }

    public static void main(String[] args) {
        int runs = args.length > 0 ? Integer.parseInt(args[0]) : 1500;
        Check check = new Check();
        for (int seed = 0; seed < runs && check.wrong() < 20; seed++) {
            new RandomRunsTest(check, seed).play();
        }
        check.end();
    }

    private void play() {
        int variables = random.nextInt(random.nextInt(5) == 0 ? 9 : 5);
        int freeOnes = random.nextInt(variables + 1) / 2;
        for (int k = 0; k < variables; k++) {
            variable(k < freeOnes);
        }
        int polynomials = random.nextInt(6);
        for (int k = 0; k < polynomials; k++) {
            polynomial();
            int terms = 1 + random.nextInt(mostTerms);
            for (int t = 0; t < terms; t++) {
                term(k, factor(), powers());
            }
            if (k < 3) {
                use(k, true);
            }
        }
        while (calls < 360) {
            act();
        }
        lookAtAll();
    }

    private void act() {
        int kind = random.nextInt(16);
        if (calm && kind < 6 && random.nextInt(5) > 0) {
            kind += 6;
        }
        switch (kind) {
            case 0: variable(random.nextBoolean()); break;
            case 1: order(random.nextInt(9) - 1, random.nextInt(9) - 1); break;
            case 2: polynomial(); break;
            case 3: case 4: term(number(), factor(), powers()); break;
            case 5: use(number(), random.nextInt(4) > 0); break;
            case 6: case 7: case 8: decompose(); break;
            case 9: case 10: case 11: prove(number()); break;
            case 12: case 13: point(random.nextInt(10) - 1, pointNumber()); break;
            case 14: lookAtOne(); break;
            default: lookAtSome(); break;
        }
    }

    private int number() {
        return random.nextInt(10) == 0 ? random.nextInt(20) - 2 : random.nextInt(6);
    }

    private long factor() {
        int kind = random.nextInt(30);
        if (kind == 0) {
            return random.nextLong();
        }
        if (kind == 1) {
            return 0;
        }
        return random.nextInt(2 * mostFactor + 1) - mostFactor;
    }

    private int powers() {
        if (random.nextInt(30) == 0) {
            return random.nextInt();
        }
        int powers = 0;
        int variables = model.told(0);
        for (int k = 0; k < variables; k++) {
            if (random.nextInt(3) == 0) {
                powers |= random.nextInt(mostPower + 1) << 4 * k;
            }
        }
        return powers;
    }

    private long pointNumber() {
        return random.nextBoolean() ? random.nextInt(11) - 5 : random.nextLong();
    }

    private void lookAtOne() {
        int of = random.nextInt(7) - 1;
        int i = random.nextInt(5) - 1;
        int t = random.nextInt(6) - 1;
        coefficient(of, i, t);
        powers(of, i, t);
        value(of, i);
        quotient(i);
        member(i, random.nextInt(6) - 1);
        told(random.nextInt(13) - 1);
    }

    private void lookAtSome() {
        for (int what = 2; what < 10; what++) {
            told(what);
        }
        int members = model.told(3);
        for (int i = 0; i < members; i++) {
            member(i, 3);
            quotient(i);
            value(1, i);
            value(2, i);
        }
        value(3, 0);
        value(4, 0);
    }

    private void lookAtAll() {
        for (int i = 0; i < 8; i++) {
            member(i, 3);
            quotient(i);
        }
        for (int what = 0; what < 11; what++) {
            told(what);
        }
        for (int of = 4; of >= 0; of--) {
            int most = of == 0 ? model.told(1) : of < 3 ? model.told(3) : 1;
            for (int i = 0; i <= most && calls < MOST_CALLS; i++) {
                value(of, i);
                lookAtTerms(of, i);
            }
        }
    }

    private void lookAtTerms(int of, int i) {
        for (int t = 0; t < 61 && calls < MOST_CALLS - 1; t++) {
            coefficient(of, i, t);
            powers(of, i, t);
            if (model.powers(of, i, t) == TriangleSets.NONE) {
                break;
            }
        }
    }

    private void due(String call, long got, long want) {
        calls++;
        check.due(run + calls + ": " + call, got, want);
    }

    private void due(String call, boolean got, boolean want) {
        due(call, got ? 1 : 0, want ? 1 : 0);
    }

    private void variable(boolean free) {
        due("variable(" + free + ")", real.variable(free), model.variable(free));
    }

    private void order(int i, int variable) {
        due("order(" + i + ", " + variable + ")", real.order(i, variable), model.order(i, variable));
    }

    private void polynomial() {
        due("polynomial()", real.polynomial(), model.polynomial());
    }

    private void term(int polynomial, long v, int powers) {
        due("term(" + polynomial + ", " + v + ", " + powers + ")",
                real.term(polynomial, v, powers), model.term(polynomial, v, powers));
    }

    private void use(int polynomial, boolean is) {
        due("use(" + polynomial + ", " + is + ")", real.use(polynomial, is), model.use(polynomial, is));
    }

    private void decompose() {
        int want = model.decompose();
        due("decompose()", real.decompose(), want);
    }

    private void prove(int polynomial) {
        int want = model.prove(polynomial);
        due("prove(" + polynomial + ")", real.prove(polynomial), want);
    }

    private void member(int i, int what) {
        due("member(" + i + ", " + what + ")", real.member(i, what), model.member(i, what));
    }

    private void told(int what) {
        due("told(" + what + ")", real.told(what), model.told(what));
    }

    private void coefficient(int of, int i, int t) {
        due("coefficient(" + of + ", " + i + ", " + t + ")", real.coefficient(of, i, t), model.coefficient(of, i, t));
    }

    private void powers(int of, int i, int t) {
        due("powers(" + of + ", " + i + ", " + t + ")", real.powers(of, i, t), model.powers(of, i, t));
    }

    private void point(int variable, long v) {
        due("point(" + variable + ", " + v + ")", real.point(variable, v), model.point(variable, v));
    }

    private void value(int of, int i) {
        due("value(" + of + ", " + i + ")", real.value(of, i), model.value(of, i));
    }

    private void quotient(int i) {
        due("quotient(" + i + ")", real.quotient(i), model.quotient(i));
    }
}
