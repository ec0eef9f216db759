/** Counts the answers that are not as due; end() leaves with exit code 1 if there was one. */
final class Due {
    static final int UNKNOWN = -2001, BAD = -2002, STATE = -2003, FULL = -2004, NONE = -2009;

    private String about = "";
    private int asked = 0;
    private int wrong = 0;

    /** What the answers from here on are about: a promise or a part of the document. */
    void about(String what) {
        about = what + ": ";
    }

    void is(String call, long got, long want) {
        asked++;
        if (got != want) {
            wrong++;
            System.out.println(about + call + " answered " + got + ", due is " + want);
        }
    }

    void holds(String what, boolean so) {
        is(what, so ? 1 : 0, 1);
    }

    void end() {
        System.out.println(asked + " asked, " + wrong + " wrong");
        if (wrong != 0) {
            System.exit(1);
        }
    }
}
