/** Counts the answers that are not the ones that are due. */
final class Due {
    private final String test;
    private String sentence = "";
    private int wrong = 0;
    private int asked = 0;

    Due(String test) {
        this.test = test;
    }

    /** The document's words that the next answers belong to. */
    void sentence(String words) {
        sentence = " [" + words + "]";
    }

    void due(String call, long got, long want) {
        asked++;
        if (got != want) {
            wrong++;
            System.out.println(test + sentence + ": " + call + " answered " + got + ", due is " + want);
        }
    }

    void yes(String what, boolean holds) {
        due(what, holds ? 1 : 0, 1);
    }

    boolean anyWrong() {
        return wrong > 0;
    }

    /** Ends the machine with exit code 1 if an answer was wrong. */
    void end() {
        System.out.println(test + ": " + asked + " answers, " + wrong + " wrong");
        if (wrong > 0) {
            System.exit(1);
        }
    }
}
