import java.util.ArrayList;
import java.util.List;
import java.util.NoSuchElementException;
import java.util.Random;

/**
 * For every promise: what answers false or throws changes nothing. A run of many calls, then the same run on a new
 * object without the calls that were refused and those that only look: all else must be answered alike.
 */
public final class RefusalTest {
    private static final Check CHECK = new Check();
    private static final int RUNS = 400;
    // With a look at how many were sent ahead of each, these stay within the 512 calls of an object.
    private static final int CALLS = 200;
    private static final String REFUSED = "refused";
    private static final int FIRST_LOOK = 18;
    private static final int KINDS = 22;

    public static void main(String[] args) {
        for (int seed = 0; seed < RUNS; seed++) {
            run(new Random(seed), seed);
        }
        CHECK.end();
    }

    private static void run(Random random, int seed) {
        BedsideNet net = new BedsideNet();
        List<int[]> all = new ArrayList<>();
        describe(random, all);
        List<String> answers = new ArrayList<>();
        for (int[] call : all) {
            answers.add(answer(net, call));
        }
        Script taken = new Script();
        all.forEach(call -> taken.then(object -> answer(object, call)));
        Script whole = taken.copy();
        for (int i = 0; i < CALLS; i++) {
            int[] call = anyCall(random, net.count(1));
            String answer = answer(net, call);
            whole.then(object -> answer(object, call));
            if (!answer.equals(REFUSED) && call[0] < FIRST_LOOK) {
                taken.then(object -> answer(object, call));
                answers.add(answer);
            }
        }
        if (!taken.answers().equals(answers)) {
            CHECK.tell("run " + seed + ": calls are answered otherwise without the refused ones");
        }
        if (!taken.sight().equals(whole.sight())) {
            CHECK.tell("run " + seed + ": the objects are not alike");
        }
    }

    /** Two devices that work, so that not all that follows is refused. */
    private static void describe(Random random, List<int[]> calls) {
        for (int device = 0; device < 2; device++) {
            calls.add(new int[] {0, device, 0});
            calls.add(new int[] {1, device, 0, 0, 5, 1});
            calls.add(new int[] {2, device, 0, 1 + random.nextInt(3), 2, 500 * random.nextInt(3)});
            calls.add(new int[] {3, device, 0, 5, 1});
            calls.add(new int[] {4, device});
        }
        calls.add(new int[] {6, 0, 1});
        calls.add(new int[] {7, 0});
        calls.add(new int[] {7, 1});
    }

    private static int[] anyCall(Random random, int sent) {
        int[] call = new int[6];
        call[0] = random.nextInt(KINDS);
        for (int i = 1; i < call.length; i++) {
            call[i] = anyNumber(random);
        }
        if (call[0] == 9 && random.nextInt(3) != 0) {
            call[1] = 1 + random.nextInt(1500);
        }
        boolean isOfMessage = call[0] == 10 || call[0] == 11 || call[0] == 20;
        if (isOfMessage && random.nextInt(8) != 0) {
            call[1] = sent - 1 - random.nextInt(6);
        }
        return call;
    }

    private static int anyNumber(Random random) {
        int[] edges = {-1, 16, 100000, 100001, -100001, Integer.MIN_VALUE, Integer.MAX_VALUE};
        int pick = random.nextInt(40);
        if (pick < edges.length) {
            return edges[pick];
        }
        return pick < 36 ? random.nextInt(4) : random.nextInt(320);
    }

    private static String answer(BedsideNet net, int[] call) {
        try {
            return call[0] < 12 ? earlier(net, call) : later(net, call);
        } catch (IllegalArgumentException e) {
            return expected(call[0], 1, 9, 12, 15);
        } catch (IllegalStateException e) {
            return expected(call[0], 1, 12, 15);
        } catch (IndexOutOfBoundsException e) {
            return expected(call[0], 18, 19, 20);
        } catch (NoSuchElementException e) {
            return expected(call[0], 18, 20);
        }
    }

    private static String expected(int kind, int... kinds) {
        for (int one : kinds) {
            if (one == kind) {
                return REFUSED;
            }
        }
        CHECK.tell("a call of kind " + kind + " threw what it may not throw");
        return REFUSED;
    }

    private static String earlier(BedsideNet net, int[] c) {
        return switch (c[0]) {
            case 0 -> told(net.device(c[1], c[2]));
            case 1 -> told(net.channel(c[1], c[2], c[3], c[4], c[5]));
            case 2 -> told(net.alarm(c[1], c[2], c[3], c[4], c[5]));
            case 3 -> told(net.setPoint(c[1], c[2], c[3], c[4]));
            case 4 -> told(net.seal(c[1]));
            case 5 -> told(net.move(c[1], c[2]));
            case 6 -> told(net.patient(c[1], c[2]));
            case 7 -> told(net.confirm(c[1]));
            case 8 -> told(net.sample(c[1], c[2], c[3]));
            case 9 -> told(net.tick(c[1]));
            case 10 -> told(net.carry(c[1], c[2] % 2 == 0));
            default -> told(net.drop(c[1]));
        };
    }

    private static String later(BedsideNet net, int[] c) {
        return switch (c[0]) {
            case 12 -> told(net.bind(c[1], c[2]));
            case 13 -> told(net.acknowledge(c[1], c[2]));
            case 14 -> told(net.lease(c[1], c[2]));
            case 15 -> told(net.order(c[1], c[2], c[3], c[4]));
            case 16 -> told(net.local(c[1], c[2], c[3] % 2 == 0));
            // A restart ends most of what a run has come to, so it is seldom.
            case 17 -> c[4] == 0 ? told(net.restart(c[1])) : told(net.inhibit(c[1], c[2], c[3]));
            case 18 -> told(net.shown(c[1], c[2]));
            case 19 -> told(net.look(c[1], c[2]));
            case 20 -> told(net.message(c[1], c[2]));
            default -> told(net.count(c[1]));
        };
    }

    private static String told(boolean answer) {
        return answer ? "true" : REFUSED;
    }

    private static String told(int answer) {
        return Integer.toString(answer);
    }
}
