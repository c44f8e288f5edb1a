/** Counts what was looked at in a test, and prints every answer that is not the one due. */
final class Checks {
    private int right;
    private int wrong;
    private String about = "";

    void about(String text) {
        about = text;
    }

    void due(String call, long want, long got) {
        if (got == want) {
            right++;
        } else {
            wrong++;
            System.out.println(about + ": " + call + " answered " + got + ", due is " + want);
        }
    }

    void due(String call, boolean want, boolean got) {
        due(call, want ? 1 : 0, got ? 1 : 0);
    }

    void endProgram() {
        System.out.println(right + " answers as due, " + wrong + " not");
        System.exit(wrong == 0 ? 0 : 1);
    }
}
