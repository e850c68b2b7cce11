/** Counts answers that are not the ones due, and ends the test by them. */
final class Check {
    private int checked;
    private int wrong;

    void due(String what, long got, long want) {
        checked++;
        if (got != want) {
            wrong++;
            System.out.println(what + " answered " + got + ", due is " + want);
        }
    }

    void due(String what, boolean got, boolean want) {
        due(what, got ? 1 : 0, want ? 1 : 0);
    }

    void dueOutside(String what, MirrorLog log, int row, int i) {
        checked++;
        try {
            int got = log.byteAt(row, i);
            wrong++;
            System.out.println(what + " answered " + got + ", due is ArrayIndexOutOfBoundsException");
        } catch (ArrayIndexOutOfBoundsException e) {
            // as due
        }
    }

    void finish(String test) {
        System.out.println(test + ": " + checked + " answers looked at, " + wrong + " not as due");
        if (wrong != 0 || checked == 0) {
            System.exit(1);
        }
    }
}
