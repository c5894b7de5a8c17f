/** Counts answers that are not the due ones, for one test. */
final class Checks {
    private final String about;
    private int made;
    private int wrong;

    Checks(String about) {
        this.about = about;
    }

    void due(String what, String got, String want) {
        made++;
        if (!got.equals(want)) {
            wrong++;
            System.out.println(about + ": " + what + " answered " + got + ", due is " + want);
        }
    }

    void due(String what, long got, long want) {
        // most answers are as due, and a test has many: no texts are made for those
        if (got == want) {
            made++;
        } else {
            due(what, Long.toString(got), Long.toString(want));
        }
    }

    void due(String what, boolean got, boolean want) {
        due(what, got ? 1 : 0, want ? 1 : 0);
    }

    /** The machine's own exception tells of an index and a length; the class's must be thrown. */
    void dueThrow(String what, PlaySearch x, int i) {
        made++;
        String thrown = "nothing";
        boolean isByMachine = false;
        try {
            x.queue(i);
        } catch (RuntimeException e) {
            thrown = e.getClass().getName();
            isByMachine = String.valueOf(e.getMessage()).startsWith("Index ");
        }
        if (!thrown.equals("java.lang.ArrayIndexOutOfBoundsException") || isByMachine) {
            wrong++;
            System.out.println(about + ": " + what + " threw " + thrown);
        }
    }

    int made() {
        return made;
    }

    void end() {
        System.out.println(about + ": " + made + " answers, " + wrong + " not as due");
        if (made == 0 || wrong != 0) {
            System.exit(1);
        }
    }
}
