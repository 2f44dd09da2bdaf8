/** All that an object tells of itself, in one text: two of them are the same when nothing changed. */
final class View {
    private View() {
    }

    static String of(TriangleSets x) {
        StringBuilder text = new StringBuilder();
        for (int what = 0; what < 10; what++) {
            text.append(what == 0 ? "told " : " ").append(x.told(what));
        }
        for (int i = 0; i < x.told(1); i++) {
            addSum(text, x, 0, i);
        }
        for (int i = 0; i < x.told(3); i++) {
            for (int what = 0; what < 4; what++) {
                text.append(what == 0 ? "; member " + i + ": " : " ").append(x.member(i, what));
            }
            addSum(text, x, 1, i);
            addSum(text, x, 2, i);
            text.append("; quotient ").append(x.quotient(i));
        }
        addSum(text, x, 3, 0);
        addSum(text, x, 4, 0);
        return text.toString();
    }

    private static void addSum(StringBuilder text, TriangleSets x, int of, int i) {
        text.append("; sum ").append(of).append(' ').append(i).append(':');
        for (int t = 0; t < 60; t++) {
            // No TERM has the coefficient 0, but one may have powers that read as NONE.
            long factor = x.coefficient(of, i, t);
            if (factor == 0) {
                break;
            }
            text.append(' ').append(factor).append('*').append(Integer.toHexString(x.powers(of, i, t)));
        }
        text.append(" = ").append(x.value(of, i));
    }
}
