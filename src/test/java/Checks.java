/** Counts and prints the answers that are not as due. */
final class Checks {
    private int wrong = 0;
    private int made = 0;
    private String sentence = "";

    /** Names the sentence of the document that the answers from here on belong to. */
    void about(String sentence) {
        this.sentence = sentence + ": ";
    }

    void due(String call, long want, long got) {
        made++;
        if (got != want) {
            wrong++;
            System.out.println(sentence + call + " answered " + got + ", due is " + want);
        }
    }

    void due(String call, boolean want, boolean got) {
        due(call, want ? 1 : 0, got ? 1 : 0);
    }

    int wrong() {
        return wrong;
    }

    void end() {
        System.out.println(wrong == 0 ? made + " answers are as due" : wrong + " answers are not as due");
        if (wrong != 0) {
            System.exit(1);
        }
    }
}
