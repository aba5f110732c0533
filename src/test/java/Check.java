/** Counts the answers of a test that are not the ones that are due, and tells each of them. */
final class Check {
    private String sentence = "";
    private int asked = 0;
    private int wrong = 0;

    /** What is asked from here on belongs to this sentence of the document, which is told with it. */
    void of(String words) {
        sentence = "\"" + words + "\": ";
    }

    void is(String what, long got, long want) {
        asked++;
        if (got != want) {
            wrong++;
            System.out.println(sentence + what + " answered " + got + ", due is " + want);
        }
    }

    void yes(String what, boolean got) {
        is(what, got ? 1 : 0, 1);
    }

    void no(String what, boolean got) {
        is(what, got ? 1 : 0, 0);
    }

    boolean isClean() {
        return wrong == 0;
    }

    /** Ends the program: with exit code 1 if an answer was wrong, or if nothing was asked. */
    void end() {
        System.out.println(asked + " answers, " + wrong + " of them wrong");
        System.exit(wrong == 0 && asked > 0 ? 0 : 1);
    }
}
