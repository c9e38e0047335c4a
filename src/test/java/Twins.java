import java.util.ArrayList;
import java.util.List;

/**
 * Whether a call changed nothing: of two objects with the same past one gets the call; all that can be seen of them
 * must be alike, at once and behind all that they go through later.
 */
final class Twins {
    private static final String FALSE = "false";

    private final Check check;
    private final Script past;
    private final List<String> sight;
    private final List<List<String>> futures = new ArrayList<>();

    Twins(Check check, Script past) {
        this.check = check;
        this.past = past;
        this.sight = past.sight();
        for (int which = 0; which < Futures.COUNT; which++) {
            futures.add(future(past, which));
        }
    }

    void no(String what, Script.Call call) {
        unchanged(what, FALSE, call);
    }

    void throwing(String what, Class<? extends RuntimeException> due, Script.Call call) {
        unchanged(what, due.getSimpleName(), call);
    }

    /** The call answers what is due, and changes nothing. */
    void unchanged(String what, String due, Script.Call call) {
        String answer = Script.answer(past.object(), call);
        if (!answer.equals(due)) {
            check.tell(what + " answered " + answer + ", due is " + due);
            return;
        }
        Script with = past.copy().then(call);
        alike(what + ", then", with.sight(), sight);
        for (int which = 0; which < Futures.COUNT; which++) {
            alike(what + ", later", future(with, which), futures.get(which));
        }
    }

    /** What the calls of a future answer, and all that can be seen behind them. */
    private static List<String> future(Script past, int which) {
        Script whole = past.copy();
        Futures.add(which, whole);
        List<String> seen = new ArrayList<>(whole.answers().subList(past.size(), whole.size()));
        seen.addAll(whole.sight());
        return seen;
    }

    private void alike(String what, List<String> with, List<String> without) {
        if (with.size() != without.size()) {
            check.tell(what + ": there is more or less to see");
            return;
        }
        for (int i = 0; i < with.size(); i++) {
            if (!with.get(i).equals(without.get(i))) {
                check.tell(what + ": the call made " + without.get(i) + " to " + with.get(i));
                return;
            }
        }
    }
}
