import java.util.ArrayList;
import java.util.List;

/**
 * A run of calls that can be made again on new objects. All that can be seen behind it is more than the 512 calls that
 * one object is good for, so each few looks get an object of their own.
 */
final class Script {
    interface Call {
        Object on(BedsideNet net);
    }

    private record Question(String name, Call call) {
    }

    private static final int CALLS_OF_AN_OBJECT = 512;
    private static final int LAST_LOOK = 38;
    private static final int MESSAGE_FACTS = 5;
    private static final int SHOWN_FACTS = 4;

    private final List<Call> calls = new ArrayList<>();

    Script then(Call call) {
        calls.add(call);
        return this;
    }

    Script copy() {
        Script other = new Script();
        other.calls.addAll(calls);
        return other;
    }

    int size() {
        return calls.size();
    }

    /** A new object behind the calls of this script. */
    BedsideNet object() {
        BedsideNet net = new BedsideNet();
        for (Call call : calls) {
            answer(net, call);
        }
        return net;
    }

    List<String> answers() {
        BedsideNet net = new BedsideNet();
        List<String> answers = new ArrayList<>();
        for (Call call : calls) {
            answers.add(answer(net, call));
        }
        return answers;
    }

    /** What a call answers, or the plain name of the exception that it throws. */
    static String answer(BedsideNet net, Call call) {
        try {
            return String.valueOf(call.on(net));
        } catch (RuntimeException e) {
            return e.getClass().getSimpleName();
        }
    }

    /** All that can be seen of an object behind this script. */
    List<String> sight() {
        // A call of a script may look for a message's number first, so it counts twice.
        int looksOfAnObject = CALLS_OF_AN_OBJECT - 2 * calls.size();
        if (looksOfAnObject <= 0) {
            throw new IllegalStateException("the script is too long to look at what it does");
        }
        List<String> seen = new ArrayList<>();
        List<Question> questions = questions();
        BedsideNet net = null;
        for (int i = 0; i < questions.size(); i++) {
            if (i % looksOfAnObject == 0) {
                net = object();
            }
            seen.add(questions.get(i).name + ": " + answer(net, questions.get(i).call));
        }
        return seen;
    }

    private List<Question> questions() {
        List<Question> all = new ArrayList<>();
        BedsideNet net = object();
        int pending = net.count(2);
        int handles = net.count(4);
        int orders = net.count(5);
        askCounts(all, 0, 7);
        askCounts(all, 100, orders + 1);
        askCounts(all, 200, pending + 1);
        askCounts(all, 300, 4);
        for (int device = 0; device < 8; device++) {
            for (int what = 0; what <= LAST_LOOK; what++) {
                askLook(all, device, what);
            }
        }
        for (int i = 0; i < pending; i++) {
            int number = net.count(200 + i);
            for (int what = 0; what < MESSAGE_FACTS; what++) {
                askMessage(all, number, what);
            }
        }
        for (int handle = 0; handle < handles; handle++) {
            for (int what = 0; what < SHOWN_FACTS; what++) {
                askShown(all, handle, what);
            }
        }
        return all;
    }

    private static void askCounts(List<Question> all, int first, int howMany) {
        for (int i = 0; i < howMany; i++) {
            int what = first + i;
            all.add(new Question("count(" + what + ")", net -> net.count(what)));
        }
    }

    private static void askLook(List<Question> all, int device, int what) {
        all.add(new Question("look(" + device + ", " + what + ")", net -> net.look(device, what)));
    }

    private static void askMessage(List<Question> all, int number, int what) {
        all.add(new Question("message(" + number + ", " + what + ")", net -> net.message(number, what)));
    }

    private static void askShown(List<Question> all, int handle, int what) {
        all.add(new Question("shown(" + handle + ", " + what + ")", net -> net.shown(handle, what)));
    }
}
