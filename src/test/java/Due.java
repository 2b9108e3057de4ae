/** Counts the answers that are not the ones that are due, and tells of each. */
final class Due {
    private int checks = 0;
    private int wrong = 0;
    private String about = "";

    void about(String about) {
        this.about = about;
    }

    void is(String call, long got, long want) {
        checks++;
        if (got != want) {
            wrong++;
            System.out.println(about + ": " + call + " answered " + got + ", due is " + want);
        }
    }

    void holds(String what, boolean so) {
        checks++;
        if (!so) {
            wrong++;
            System.out.println(about + ": " + what);
        }
    }

    /** Ends the program, with 1 if an answer was wrong or none was looked at. */
    void end() {
        System.out.println(checks + " answers looked at, " + wrong + " wrong");
        System.exit(wrong == 0 && checks > 0 ? 0 : 1);
    }
}
