import java.util.function.Consumer;
import java.util.function.Supplier;

/** Counts the answers, and prints those that are not as due. */
final class Checks {
    private int made;
    private int wrong;

    void same(String what, long due, long got) {
        note(what, String.valueOf(due), String.valueOf(got));
    }

    void same(String what, boolean due, boolean got) {
        note(what, String.valueOf(due), String.valueOf(got));
    }

    void same(String what, String due, String got) {
        note(what, due, got);
    }

    /** The row of answers is one text, so that one line of a test tells a whole row. */
    void row(String what, String due, int... got) {
        StringBuilder text = new StringBuilder();
        for (int answer : got) {
            text.append(text.length() == 0 ? "" : " ").append(answer);
        }
        note(what, due, text.toString());
    }

    void noIndex(String what, Supplier<LockgateRouter> maker, Consumer<LockgateRouter> call) {
        refused(what, maker, call, IndexOutOfBoundsException.class);
    }

    void noArgument(String what, Supplier<LockgateRouter> maker, Consumer<LockgateRouter> call) {
        refused(what, maker, call, IllegalArgumentException.class);
    }

    void noState(String what, Supplier<LockgateRouter> maker, Consumer<LockgateRouter> call) {
        refused(what, maker, call, IllegalStateException.class);
    }

    void refused(String what, Supplier<LockgateRouter> maker, Consumer<LockgateRouter> call, Class<?> due) {
        note(what + " throws", due.getSimpleName(), outcome(maker.get(), call));
        unchanged(what, maker, call);
    }

    void answered(String what, Supplier<LockgateRouter> maker, Consumer<LockgateRouter> call) {
        note(what + " throws", "nothing", outcome(maker.get(), call));
    }

    /**
     * A twin tells that nothing changed, and two more tell that nothing is to change later on: to look ahead of
     * the call and behind it at one object alone would be above 512 calls.
     */
    void unchanged(String what, Supplier<LockgateRouter> maker, Consumer<LockgateRouter> call) {
        LockgateRouter now = maker.get();
        LockgateRouter later = maker.get();
        outcome(now, call);
        outcome(later, call);
        note(what + " changes nothing", Snapshot.of(maker.get()), Snapshot.of(now));
        note(what + " changes nothing of later calls", Afterwards.of(maker.get()), Afterwards.of(later));
    }

    private static String outcome(LockgateRouter net, Consumer<LockgateRouter> call) {
        try {
            call.accept(net);
            return "nothing";
        } catch (RuntimeException thrown) {
            return nameOf(thrown);
        }
    }

    /**
     * The program throws itself or not at all. What the machine throws for an array has a class of its own;
     * what a list throws has the document's, but comes from the library.
     */
    static String nameOf(RuntimeException thrown) {
        String name = thrown.getClass().getSimpleName();
        StackTraceElement[] trace = thrown.getStackTrace();
        boolean own = trace.length > 0 && trace[0].getClassName().equals("LockgateRouter");
        return own ? name : name + " that the program did not throw";
    }

    private void note(String what, String due, String got) {
        made++;
        if (!due.equals(got)) {
            wrong++;
            System.out.println("WRONG " + what + ": answered " + got + ", due is " + due);
        }
    }

    void end(String name) {
        System.out.println(name + ": " + made + " checks, " + wrong + " wrong");
        if (wrong != 0 || made == 0) {
            System.exit(1);
        }
    }
}
