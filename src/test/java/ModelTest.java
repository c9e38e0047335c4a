import java.util.ArrayList;
import java.util.Arrays;
import java.util.List;
import java.util.Map;
import java.util.Random;
import java.util.TreeMap;

/**
 * For every promise: runs of calls on the class and on the model, which must answer alike. The runs are led to where
 * much happens, and the test fails if they do not come there.
 */
public final class ModelTest {
    private static final Check CHECK = new Check();
    private static final int RUNS = 1500;
    private static final int CALLS_OF_AN_OBJECT = 512;
    private static final int DEVICES_IN_USE = 3;
    private static final int[] SPANS = {
        1, 1, 2, 250, 499, 500, 501, 999, 1000, 1001, 1999, 2000, 2999, 3000, 4000, 6000, 9999, 10000,
    };
    private static final int[] FAR = {
        -1, 4, 5, 8, 15, 16, 17, 64, 100, 100000, 100001, -100000, -100001, Integer.MIN_VALUE, Integer.MAX_VALUE,
    };
    private static final int[] SEEN = {
        1, 2, 4, 5, 6, 7, 8, 10, 11, 12, 13, 14, 18, 19, 20, 21, 22, 26, 30, 34, 38,
    };

    /** How often the runs came to what they are meant to come to. */
    private static final Map<String, Integer> REACHED = new TreeMap<>();

    private final Random random;
    private final Model model = new Model();
    private final Face net = Face.of(new BedsideNet());
    private final List<String> calls = new ArrayList<>();
    // Some runs leave their messages lying, so that there is want of room; some have many restarts.
    private final boolean isSlow;
    private final boolean isRestless;

    private ModelTest(int seed) {
        random = new Random(seed);
        isSlow = seed % 4 == 0;
        isRestless = seed % 3 == 0;
    }

    public static void main(String[] args) {
        for (int seed = 0; seed < RUNS; seed++) {
            new ModelTest(seed).run(seed);
        }
        reachedAll();
        CHECK.end();
    }

    private void run(int seed) {
        describe();
        while (calls.size() < CALLS_OF_AN_OBJECT) {
            int[] call = random.nextInt(100) < 45 ? anyLook() : anyDeed();
            if (random.nextInt(60) == 0) {
                call[1 + random.nextInt(call.length - 1)] = FAR[random.nextInt(FAR.length)];
            }
            if (!isAlike(call)) {
                CHECK.tell("run " + seed + ", behind " + calls.subList(0, calls.size() - 1));
                return;
            }
        }
        countEvents();
    }

    private boolean isAlike(int... call) {
        String due = answer(model, call);
        String got = answer(net, call);
        calls.add(Arrays.toString(call) + " " + due);
        if (call[0] == 13 && call[2] < 2) {
            reach("shown " + (due.equals("NoSuchElementException") ? "nothing" : "value"));
        }
        if (call[0] == 20 && call[2] % 8 == 3 && call[2] > 10) {
            reach("level " + due);
        }
        if (!got.equals(due)) {
            CHECK.tell(Arrays.toString(call) + " answered " + got + ", due is " + due);
        }
        return got.equals(due);
    }

    private int pick(int... some) {
        return some[random.nextInt(some.length)];
    }

    private int anyDevice() {
        return random.nextInt(DEVICES_IN_USE);
    }

    private int anyChannel() {
        return random.nextInt(2);
    }

    private int anyPending() {
        int pending = model.count(2);
        if (pending == 0) {
            return random.nextInt(model.count(1) + 1);
        }
        // The newest ones more often than the others, as these do most.
        int back = random.nextBoolean() ? random.nextInt(pending) : random.nextInt(Math.min(pending, 4));
        return model.count(200 + pending - 1 - back);
    }

    // ---- how a run begins

    private void describe() {
        for (int device = 0; device < DEVICES_IN_USE; device++) {
            isAlike(0, device, pick(0, 0, 1));
            int channels = 1 + random.nextInt(2);
            for (int channel = 0; channel < channels; channel++) {
                isAlike(1, device, random.nextInt(2), pick(0, -4, 1), 10, pick(1, 1, 3));
                if (random.nextInt(8) != 0) {
                    isAlike(2, device, channel, 1 + random.nextInt(3), 5, pick(0, 0, 500, 1000, 2500));
                }
            }
            if (random.nextInt(4) != 0) {
                isAlike(3, device, pick(0, -3), 10, 5);
            }
            if (random.nextInt(12) != 0) {
                isAlike(4, device);
            }
        }
        isAlike(6, 0, 7);
        isAlike(6, 1, 8);
        for (int device = 0; device < DEVICES_IN_USE; device++) {
            isAlike(7, device);
        }
    }

    // ---- how it goes on

    private int[] anyDeed() {
        int pick = random.nextInt(100);
        if (pick < 22) {
            return new int[] {8, anyDevice(), anyChannel(), pick(-4, -1, 0, 1, 4, 5, 6, 7, 8, 10)};
        }
        if (pick < 40) {
            return new int[] {9, pick(SPANS)};
        }
        if (pick < 66) {
            int kind = random.nextInt(12) == 0 ? 11 : 10;
            return isSlow && random.nextInt(3) != 0
                    ? new int[] {10, anyPending(), 1} : new int[] {kind, anyPending(), random.nextInt(2)};
        }
        if (pick < 72) {
            return new int[] {14, anyDevice(), anyChannel()};
        }
        return pick < 88 ? anyOrderDeed() : anySeldomDeed();
    }

    private int[] anyOrderDeed() {
        return switch (random.nextInt(8)) {
            case 0, 1 -> new int[] {16, random.nextInt(2), anyDevice()};
            case 2, 3, 4 -> anyOrder();
            case 5 -> new int[] {18, anyDevice(), BedsideNet.NONE, random.nextInt(4) == 0 ? 0 : 1};
            case 6 -> new int[] {18, anyDevice(), pick(-3, 0, 2, 5, 7, 10), random.nextInt(2)};
            default -> new int[] {15, anyDevice(), anyChannel(), pick(0, 1, 500, 1000, 3000, 100000)};
        };
    }

    private int[] anyOrder() {
        int device = anyDevice();
        int expected = random.nextBoolean() ? model.look(device, 6) : pick(-3, 0, 2, 5);
        // Mostly the one that has the lease, as nothing comes of the others' orders.
        int controller = random.nextInt(4) == 0 ? random.nextInt(4) : Math.max(model.look(device, 7), 0);
        return new int[] {17, controller, device, pick(-3, 0, 2, 5, 7, 10), expected};
    }

    private int[] anySeldomDeed() {
        int device = anyDevice();
        if (isRestless && random.nextInt(3) == 0) {
            return new int[] {19, device};
        }
        return switch (random.nextInt(16)) {
            case 0 -> new int[] {5, device, random.nextInt(2)};
            case 1 -> new int[] {6, random.nextInt(2), pick(0, 7, 8, 9)};
            case 2, 3, 4 -> new int[] {12, random.nextInt(2), random.nextInt(2)};
            case 5 -> new int[] {19, device};
            case 6 -> new int[] {0, pick(device, 7), random.nextInt(4)};
            case 7 -> new int[] {1, pick(device, 7), random.nextInt(2), 0, 10, 1};
            case 8 -> new int[] {2, pick(device, 7), anyChannel(), 2, 5, 0};
            case 9 -> new int[] {3, pick(device, 7), -3, 10, 5};
            case 10 -> new int[] {4, pick(device, 7)};
            default -> new int[] {7, device};
        };
    }

    private int[] anyLook() {
        int pick = random.nextInt(10);
        if (pick < 4) {
            return new int[] {20, anyDevice(), pick(SEEN)};
        }
        if (pick < 6) {
            return new int[] {21, anyPending(), random.nextInt(5)};
        }
        if (pick < 8) {
            return new int[] {13, random.nextInt(model.count(4) + 1), random.nextInt(4)};
        }
        int place = pick(random.nextInt(8), 100 + random.nextInt(model.count(5) + 1),
                200 + random.nextInt(model.count(2) + 1), 300 + random.nextInt(5));
        return new int[] {22, place};
    }

    // ---- one call

    private static String answer(Face face, int[] call) {
        try {
            return String.valueOf(call[0] < 12 ? earlier(face, call) : later(face, call));
        } catch (RuntimeException e) {
            return e.getClass().getSimpleName();
        }
    }

    private static Object earlier(Face face, int[] c) {
        return switch (c[0]) {
            case 0 -> face.device(c[1], c[2]);
            case 1 -> face.channel(c[1], c[2], c[3], c[4], c[5]);
            case 2 -> face.alarm(c[1], c[2], c[3], c[4], c[5]);
            case 3 -> face.setPoint(c[1], c[2], c[3], c[4]);
            case 4 -> face.seal(c[1]);
            case 5 -> face.move(c[1], c[2]);
            case 6 -> face.patient(c[1], c[2]);
            case 7 -> face.confirm(c[1]);
            case 8 -> face.sample(c[1], c[2], c[3]);
            case 9 -> face.tick(c[1]);
            case 10 -> face.carry(c[1], c[2] == 1);
            default -> face.drop(c[1]);
        };
    }

    private static Object later(Face face, int[] c) {
        return switch (c[0]) {
            case 12 -> face.bind(c[1], c[2]);
            case 13 -> face.shown(c[1], c[2]);
            case 14 -> face.acknowledge(c[1], c[2]);
            case 15 -> face.inhibit(c[1], c[2], c[3]);
            case 16 -> face.lease(c[1], c[2]);
            case 17 -> face.order(c[1], c[2], c[3], c[4]);
            case 18 -> face.local(c[1], c[2], c[3] == 1);
            case 19 -> face.restart(c[1]);
            case 20 -> face.look(c[1], c[2]);
            case 21 -> face.message(c[1], c[2]);
            default -> face.count(c[1]);
        };
    }

    // ---- what the runs came to

    private static void reach(String what) {
        REACHED.merge(what, 1, Integer::sum);
    }

    private void countEvents() {
        for (Model.Event event : model.record) {
            switch (event.what()) {
                case JUDGED -> reach("reason " + event.value());
                case SENT -> reach((event.message().lost() ? "lost " : "sent ") + event.message().kind());
                case CAME -> reach((event.life() == event.message().life() ? "came " : "came of another life ")
                        + event.message().kind());
                default -> reach(event.what().toString());
            }
        }
    }

    private static void reachedAll() {
        List<String> due = new ArrayList<>(List.of("BEGAN", "ENDED", "ACKNOWLEDGED", "INHIBITED", "LEASED", "REMOTE",
                "LOCAL", "TIED", "UNTIED", "shown value", "shown nothing", "level -1", "level 0", "level 1", "level 2",
                "level 3"));
        for (int kind = 1; kind <= 6; kind++) {
            due.addAll(List.of("sent " + kind, "lost " + kind, "came " + kind, "came of another life " + kind));
        }
        for (int reason = 0; reason <= 5; reason++) {
            due.add("reason " + reason);
        }
        for (String what : due) {
            if (REACHED.getOrDefault(what, 0) < 50) {
                CHECK.tell("the runs came to '" + what + "' only " + REACHED.getOrDefault(what, 0) + " times");
            }
        }
    }
}
