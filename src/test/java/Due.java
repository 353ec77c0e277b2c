/** Counts the calls whose answer is not the one that is due. */
final class Due {
    private int wrong;
    private int asked;
    private String about = "";

    /** What the next calls are about: it stands ahead of what is printed. */
    void about(String words) {
        about = words;
    }

    void is(String call, long got, long want) {
        asked++;
        if (got != want) {
            wrong++;
            System.out.println(about + ": " + call + " answered " + got + ", due is " + want);
        }
    }

    void holds(String what, boolean so) {
        asked++;
        if (!so) {
            wrong++;
            System.out.println(about + ": " + what);
        }
    }

    int asked() {
        return asked;
    }

    int wrong() {
        return wrong;
    }

    void end() {
        System.out.println((asked - wrong) + " of " + asked + " as due");
        if (wrong > 0) {
            System.exit(1);
        }
    }
}
