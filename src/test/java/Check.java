/** Counts the answers that are not as due; every test ends by finish(). */
final class Check {
    private int asked;
    private int wrong;
    private String about = "";

    void about(String name) {
        about = name;
    }

    void due(long got, long want, String call) {
        asked++;
        if (got != want) {
            wrong++;
            System.out.println(about + ": " + call + " answered " + got + ", due is " + want);
        }
    }

    void holds(boolean is, String what) {
        due(is ? 1 : 0, 1, what);
    }

    int wrong() {
        return wrong;
    }

    void finish() {
        System.out.println(asked + " answers, " + wrong + " not as due");
        if (wrong != 0) {
            System.exit(1);
        }
    }
}
