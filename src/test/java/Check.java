/** Counts the answers that are not the ones that are due, and ends a test accordingly. */
final class Check {
    static final int NONE = RemoteDesks.NONE, UNKNOWN = RemoteDesks.UNKNOWN, OUTSIDE = RemoteDesks.OUTSIDE;
    static final int NOT = RemoteDesks.NOT, FULL = RemoteDesks.FULL;

    private String part = "";
    private int asked;
    private int wrong;

    /** Names the part of the test that follows. */
    void part(String name) {
        part = name;
    }

    void due(String call, long got, long want) {
        asked++;
        if (got != want) {
            wrong++;
            System.out.println(part + ": " + call + " answered " + got + ", due is " + want);
        }
    }

    void end() {
        System.out.println(asked + " answers, " + wrong + " not as due");
        if (wrong != 0 || asked == 0) {
            System.exit(1);
        }
    }
}
