/** Counts the answers that are not due, and prints each of them. */
final class Check {
    private final String name;
    private int checked = 0;
    private int wrong = 0;

    Check(String name) {
        this.name = name;
    }

    int checked() {
        return checked;
    }

    int wrong() {
        return wrong;
    }

    void due(String call, long got, long want) {
        checked++;
        if (got != want) {
            wrong++;
            System.out.println(name + ": " + call + " answered " + got + ", due is " + want);
        }
    }

    void same(String what, String got, String want) {
        checked++;
        if (!got.equals(want)) {
            wrong++;
            System.out.println(name + ": " + what + " is " + got + ", due is " + want);
        }
    }

    void end() {
        System.out.println(name + ": " + (checked - wrong) + " of " + checked + " answers are as due");
        if (wrong != 0 || checked == 0) {
            System.exit(1);
        }
    }
}
