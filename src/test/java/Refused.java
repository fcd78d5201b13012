import java.util.function.Supplier;
import java.util.function.ToLongFunction;

/** One state, made anew for each call: what is refused (or only asked) in it changes nothing. */
final class Refused {
    private static final int ACTS_MOST = 14, SLOTS = 2;

    private final Check check;
    private final String name;
    private final Supplier<CrowdReports> state;
    private final String untouched;

    Refused(Check check, String name, Supplier<CrowdReports> state) {
        this.check = check;
        this.name = name;
        this.state = state;
        this.untouched = traceBehind(x -> 0);
    }

    void due(String call, ToLongFunction<CrowdReports> made, long refusal) {
        check.due(name + ": " + call, made.applyAsLong(state.get()), refusal);
        changesNothing(call, made);
    }

    void changesNothing(String call, ToLongFunction<CrowdReports> made) {
        check.holds(name + ": " + call + " changes nothing", untouched.equals(traceBehind(made)));
    }

    /** All that can be told behind a call, the undone ACTS and what was kept too. */
    private String traceBehind(ToLongFunction<CrowdReports> made) {
        StringBuilder told = new StringBuilder();
        // A new object for each look: none is used for more than the 512 calls that are promised.
        for (int undone = 0; undone <= ACTS_MOST + 1; undone++) {
            CrowdReports x = behind(made);
            int left = 0;
            for (int i = 0; i < undone; i++) {
                left = x.undo();
            }
            told.append(left).append(": ").append(Check.all(x)).append('\n');
        }
        for (int slot = 0; slot < SLOTS; slot++) {
            CrowdReports x = behind(made);
            told.append(x.again(slot)).append(": ").append(Check.all(x)).append('\n');
        }
        return told.toString();
    }

    private CrowdReports behind(ToLongFunction<CrowdReports> made) {
        CrowdReports x = state.get();
        made.applyAsLong(x);
        return x;
    }
}
