/** Counts the answers that are not as due. */
final class Checks {
    private final String title;
    private int asked = 0;
    private int wrong = 0;

    Checks(String title) {
        this.title = title;
    }

    void due(String what, long got, long want) {
        asked++;
        if (got != want) {
            wrong++;
            System.out.println(title + ": " + what + " answered " + got + ", due is " + want);
        }
    }

    void due(String what, String got, String want) {
        asked++;
        if (!got.equals(want)) {
            wrong++;
            System.out.println(title + ": " + what + " gave " + got + ", due is " + want);
        }
    }

    void due(String what, boolean got) {
        due(what, got ? 1 : 0, 1);
    }

    /** A test that asks nothing shows nothing, so it does not hold. */
    boolean hold() {
        return wrong == 0 && asked > 0;
    }

    void close() {
        System.out.println(title + ": " + asked + " answers, " + wrong + " not as due");
        if (!hold()) {
            System.exit(1);
        }
    }
}
