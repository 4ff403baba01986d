/** Counts the answers that are not as due, and tells each. */
final class Due {
    private final String name;
    private int wrong;
    private int asked;

    Due(String name) {
        this.name = name;
    }

    void is(String call, long got, long want) {
        asked++;
        if (got != want) {
            wrong++;
            System.out.println(name + ": " + call + " answered " + got + ", due is " + want);
        }
    }

    void holds(String claim, boolean held) {
        is(claim, held ? 1 : 0, 1);
    }

    boolean isAllRight() {
        return wrong == 0;
    }

    void end() {
        System.out.println(name + ": " + asked + " asked, " + wrong + " wrong");
        if (wrong != 0) {
            System.exit(1);
        }
    }
}
