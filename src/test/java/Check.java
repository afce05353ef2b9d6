import java.util.function.Consumer;
import java.util.function.Supplier;

/** Counts the answers that are not the ones due, for one test program. */
final class Check {
    static final Class<? extends RuntimeException> INDEX = IndexOutOfBoundsException.class;
    static final Class<? extends RuntimeException> ARGUMENT = IllegalArgumentException.class;
    static final Class<? extends RuntimeException> STATE = IllegalStateException.class;

    private final String name;
    private final boolean isQuiet;
    private int checked = 0;
    private int wrong = 0;

    Check(String name) {
        this(name, false);
    }

    Check(String name, boolean isQuiet) {
        this.name = name;
        this.isQuiet = isQuiet;
    }

    void due(String what, long got, long want) {
        due(what, Long.toString(got), Long.toString(want));
    }

    void due(String what, boolean got, boolean want) {
        due(what, got ? 1 : 0, want ? 1 : 0);
    }

    void due(String what, String got, String want) {
        count(want.equals(got), what + " answered " + got + ", due is " + want);
    }

    /** The very class is due: one that the machine throws may be of a class below it. */
    void fails(String what, Class<? extends RuntimeException> kind, Runnable call) {
        String got = "nothing";
        try {
            call.run();
        } catch (RuntimeException thrown) {
            got = thrown.getClass().getName();
        }
        count(kind.getName().equals(got), what + " threw " + got + ", due is " + kind.getName());
    }

    /** The call throws, and an object on which it was made is like one on which it was not. */
    void refused(String what, Class<? extends RuntimeException> kind, Supplier<BallotFoundry> made,
            Consumer<BallotFoundry> call) {
        BallotFoundry x = made.get();
        fails(what, kind, () -> call.accept(x));
        due(what + ", and changes nothing", Picture.of(x), Picture.of(made.get()));
    }

    int checked() {
        return checked;
    }

    int wrong() {
        return wrong;
    }

    void end() {
        System.out.println(name + ": " + checked + " checked, " + wrong + " wrong");
        if (wrong > 0 || checked == 0) {
            System.exit(1);
        }
    }

    private void count(boolean isRight, String what) {
        checked++;
        if (!isRight) {
            wrong++;
            if (!isQuiet) {
                System.out.println(name + ": " + what);
            }
        }
    }
}
