import java.util.function.LongSupplier;

/** Counts and prints the answers that are not as due, and ends a test. */
final class Checks {
    private int made = 0;
    private int wrong = 0;

    void equal(String call, long got, long due) {
        made++;
        if (got != due) {
            wrong++;
            System.out.println(call + " answered " + got + ", due is " + due);
        }
    }

    void same(String what, String got, String due) {
        made++;
        if (!got.equals(due)) {
            wrong++;
            System.out.println(what + ": got " + got + ", due is " + due);
        }
    }

    /** The call has to throw exactly this exception and to leave the table as it was. */
    void refused(String call, Class<? extends RuntimeException> due, SkatMill table, LongSupplier body) {
        String before = Table.look(table);
        same(call, outcome(body), due.getSimpleName());
        same("the table after " + call, Table.look(table), before);
    }

    static String outcome(LongSupplier body) {
        try {
            return Long.toString(body.getAsLong());
        } catch (RuntimeException e) {
            return e.getClass().getSimpleName();
        }
    }

    void end(String name) {
        System.out.println(name + ": " + made + " checks, " + wrong + " wrong");
        if (wrong != 0 || made == 0) {
            System.exit(1);
        }
    }
}
