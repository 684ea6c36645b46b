/** Counts and prints the answers that are not the ones that are due. */
final class Check {
    private int wrong = 0;
    private String about = "";

    /** What the next answers are about: a promise, and the words of the document. */
    void about(String sentence) {
        about = sentence + ": ";
    }

    void due(String call, long got, long want) {
        if (got != want) {
            wrong++;
            if (wrong <= 50) {
                System.out.println(about + call + " answered " + got + ", due is " + want);
            }
        }
    }

    void due(String call, boolean got, boolean want) {
        due(call, got ? 1 : 0, want ? 1 : 0);
    }

    void end() {
        if (wrong != 0) {
            System.out.println(wrong + " answers are not as due");
            System.exit(1);
        }
    }
}
