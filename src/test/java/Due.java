/** Counts and prints the calls whose answer is not the one that is due. */
final class Due {
    private String where = "";
    private int calls = 0;
    private int wrong = 0;

    /** Names what the next calls are about. */
    void at(String place) {
        where = place;
    }

    void due(String call, long got, long want) {
        calls++;
        if (got != want) {
            wrong++;
            System.out.println(where + ": " + call + " answered " + got + ", due is " + want);
        }
    }

    void isTrue(String what, boolean got) {
        due(what, got ? 1 : 0, 1);
    }

    /** Ends the program, with exit code 1 if an answer was wrong or nothing was asked. */
    void end() {
        System.out.println(calls + " answers looked at, " + wrong + " not as due");
        if (wrong != 0 || calls == 0) {
            System.exit(1);
        }
    }
}
