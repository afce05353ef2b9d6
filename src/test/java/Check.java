/** Counts the answers that are not the ones due, for one test program. */
final class Check {
    static final Class<? extends RuntimeException> INDEX = IndexOutOfBoundsException.class;
    static final Class<? extends RuntimeException> ARGUMENT = IllegalArgumentException.class;
    static final Class<? extends RuntimeException> STATE = IllegalStateException.class;

    private final String name;
    private int checked = 0;
    private int wrong = 0;

    Check(String name) {
        this.name = name;
    }

    void due(String what, long got, long want) {
        checked++;
        if (got != want) {
            wrong++;
            System.out.println(name + ": " + what + " answered " + got + ", due is " + want);
        }
    }

    void due(String what, boolean got, boolean want) {
        due(what, got ? 1 : 0, want ? 1 : 0);
    }

    void due(String what, String got, String want) {
        checked++;
        if (!want.equals(got)) {
            wrong++;
            System.out.println(name + ": " + what + " answered " + got + ", due is " + want);
        }
    }

    /** The very class is due: one that the machine throws may be of a class below it. */
    void fails(String what, Class<? extends RuntimeException> kind, Runnable call) {
        checked++;
        String got = "nothing";
        try {
            call.run();
        } catch (RuntimeException thrown) {
            got = thrown.getClass().getName();
        }
        if (!kind.getName().equals(got)) {
            wrong++;
            System.out.println(name + ": " + what + " threw " + got + ", due is " + kind.getName());
        }
    }

    void end() {
        System.out.println(name + ": " + checked + " checked, " + wrong + " wrong");
        if (wrong > 0 || checked == 0) {
            System.exit(1);
        }
    }
}
