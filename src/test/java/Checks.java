import java.util.function.LongSupplier;

/** Counts and prints the answers that are not as due, and ends a test. */
final class Checks {
    static final String INDEX = "IndexOutOfBoundsException";
    static final String ARGUMENT = "IllegalArgumentException";
    static final String STATE = "IllegalStateException";

    private int made = 0;
    private int wrong = 0;

    void equal(String call, long got, long due) {
        made++;
        if (got != due) {
            wrong++;
            System.out.println(call + " answered " + got + ", due is " + due);
        }
    }

    void same(String what, String got, String due) {
        made++;
        if (!got.equals(due)) {
            wrong++;
            System.out.println(what + ": got " + got + ", due is " + due);
        }
    }

    /** The call, named as for Table.run, has to give this answer when it follows the words. */
    void answer(String words, String call, long due) {
        SkatMill x = Table.after(words);
        same(call + " after " + words, outcome(() -> Table.run(x, call)), Long.toString(due));
    }

    /**
     * The call has to throw exactly this exception when it follows the words, and to leave the table as it was. Each
     * time a new table is made, as nothing is promised behind 512 calls.
     */
    void refused(String words, String call, String due) {
        SkatMill x = Table.after(words);
        String before = Table.look(x);
        same(call + " after " + words, outcome(() -> Table.run(x, call)), due);
        same("the table when " + call + " was refused after " + words, Table.look(x), before);
    }

    static String outcome(LongSupplier body) {
        try {
            return Long.toString(body.getAsLong());
        } catch (RuntimeException e) {
            return e.getClass().getSimpleName();
        }
    }

    void end(String name) {
        System.out.println(name + ": " + made + " checks, " + wrong + " wrong");
        if (wrong != 0 || made == 0) {
            System.exit(1);
        }
    }
}
