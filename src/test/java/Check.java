/** Counts the answers that are not the ones that are due, and ends with exit code 1 if there was one. */
final class Check {
    private String sentence = "";
    private int sentences;
    private int askedOfSentence;
    private int asked;
    private int wrong;

    /** The promise and the words of the document that the checks from here on hold it to. */
    void sentence(String words) {
        endSentence();
        sentence = words;
        sentences++;
        askedOfSentence = 0;
    }

    /** A sentence that nothing was asked for would look as if it held. */
    private void endSentence() {
        if (!sentence.isEmpty() && askedOfSentence == 0) {
            wrong++;
            System.out.println(sentence + ": nothing was asked");
        }
    }

    void due(String call, long got, long want) {
        count();
        if (got != want) {
            tell(call, Long.toString(got), Long.toString(want));
        }
    }

    void due(String call, boolean got, boolean want) {
        count();
        if (got != want) {
            tell(call, Boolean.toString(got), Boolean.toString(want));
        }
    }

    void due(String call, String got, String want) {
        count();
        if (!got.equals(want)) {
            tell(call, got, want);
        }
    }

    private void count() {
        asked++;
        askedOfSentence++;
    }

    private void tell(String call, String got, String want) {
        wrong++;
        String where = sentence.isEmpty() ? "" : sentence + ": ";
        System.out.println(where + call + " answered " + got + ", due is " + want);
    }

    int wrong() {
        return wrong;
    }

    void end() {
        endSentence();
        String of = sentences == 0 ? "" : " of " + sentences + " sentences";
        System.out.println(asked + " answers" + of + ", " + wrong + " not as due");
        if (wrong != 0 || asked == 0) {
            System.exit(1);
        }
    }
}
