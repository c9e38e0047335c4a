/** Promises 22 and 24: what look and count answer at their edges. */
public final class LookTest {
    private static final Check CHECK = new Check();

    public static void main(String[] args) {
        lookRefused();
        lookAtChannels();
        lookWithoutAlarm();
        noneSuch();
        count();
        countOfMessages();
        CHECK.end();
    }

    private static void lookRefused() {
        BedsideNet net = new BedsideNet();
        int[] wrongDevices = {-1, 8, Integer.MIN_VALUE, Integer.MAX_VALUE};
        for (int device : wrongDevices) {
            CHECK.throwing("device " + device, IndexOutOfBoundsException.class, () -> net.look(device, 0));
        }
        int[] wrong = {-1, 15, 16, 17, 23, 24, 25, 31, 32, 33, 39, 40, 41, 42, 50, Integer.MIN_VALUE, Integer.MAX_VALUE};
        for (int what : wrong) {
            CHECK.throwing("what " + what, IndexOutOfBoundsException.class, () -> net.look(0, what));
        }
    }

    private static void lookAtChannels() {
        BedsideNet net = new BedsideNet();
        net.device(7, 3);
        for (int k = 0; k < 3; k++) {
            net.channel(7, k, 0, 100, 1);
        }
        for (int fact = 0; fact < 5; fact++) {
            CHECK.same("no such channel " + fact, net.look(7, 34 + fact), -1);
            CHECK.same("of no device " + fact, net.look(6, 10 + fact), -1);
        }
        net.channel(7, 3, -100, 100, 1);
        for (int k = 0; k < 4; k++) {
            net.alarm(7, k, 2, 10 * k, 0);
        }
        CHECK.same("channels", net.look(7, 3), 4);
        net.seal(7);
        Ward.tie(net, 7, 3);
        net.sample(7, 3, -1);
        CHECK.same("has a value", net.look(7, 36), 1);
        CHECK.same("which is -1", net.look(7, 37), -1);
        net.sample(7, 1, 20);
        int[] due = {2, 0, 1, 20, 0};
        for (int fact = 0; fact < 5; fact++) {
            CHECK.same("channel 1 " + fact, net.look(7, 18 + fact), due[fact]);
        }
        Ward.carryNewest(net);
        CHECK.same("the station knows it", net.look(7, 22), 2);
        CHECK.same("no other", net.look(7, 30), 0);
        CHECK.same("no other", net.look(7, 14), 0);
    }

    private static void lookWithoutAlarm() {
        BedsideNet net = Ward.monitor();
        net.sample(0, 0, 100);
        int[] due = {0, -1, 1, 100, 0};
        for (int fact = 0; fact < 5; fact++) {
            CHECK.same("fact " + fact, net.look(0, 10 + fact), due[fact]);
        }
        CHECK.same("no set-point", net.look(0, 9), 0);
        CHECK.same("no value of it", net.look(0, 6), -1);
    }

    /** "NONE if there is none such (bed, lease, level, value, set-point, channel)", and what is there next to it. */
    private static void noneSuch() {
        BedsideNet net = new BedsideNet();
        CHECK.same("no bed", net.look(0, 1), -1);
        net.device(0, 0);
        CHECK.same("bed", net.look(0, 1), 0);
        noneOfChannel(net, 0);
        CHECK.same("no set-point", net.look(0, 6), -1);
        net.setPoint(0, 20, 60, 5);
        CHECK.same("set-point", net.look(0, 6), 20);
        for (int k = 0; k < 4; k++) {
            noneOfChannel(net, k);
            net.channel(0, 0, 0, 100, 1);
            CHECK.same("no alarm", net.look(0, 10 + 8 * k), 0);
            net.alarm(0, k, 2, 40, 0);
            CHECK.same("off", net.look(0, 10 + 8 * k), 1);
            CHECK.same("no level", net.look(0, 11 + 8 * k), -1);
            CHECK.same("has none", net.look(0, 12 + 8 * k), 0);
            CHECK.same("no value", net.look(0, 13 + 8 * k), -1);
            CHECK.same("the station knows none", net.look(0, 14 + 8 * k), 0);
        }
        net.seal(0);
        CHECK.same("no lease", net.look(0, 7), -1);
        net.lease(0, 0);
        CHECK.same("lease", net.look(0, 7), 0);
        Ward.tie(net, 0, 0);
        net.sample(0, 3, 50);
        CHECK.same("level", net.look(0, 35), 0);
        CHECK.same("value", net.look(0, 37), 50);
        net.sample(0, 3, 0);
        CHECK.same("no level", net.look(0, 35), -1);
    }

    private static void noneOfChannel(BedsideNet net, int channel) {
        for (int fact = 10; fact <= 14; fact++) {
            CHECK.same("no channel " + channel, net.look(0, fact + 8 * channel), -1);
        }
    }

    private static void count() {
        BedsideNet net = new BedsideNet();
        int[] none = {-1, 7, 8, 99, 100, 199, 200, 263, 264, 299, 304, 400, Integer.MIN_VALUE, Integer.MAX_VALUE};
        for (int what : none) {
            CHECK.same("count " + what, net.count(what), -1);
        }
        net.patient(3, 9);
        CHECK.same("patient of 3", net.count(303), 9);
        CHECK.same("patient of 2", net.count(302), 0);
    }

    private static void countOfMessages() {
        BedsideNet net = Ward.monitor();
        for (int i = 0; i < 70; i++) {
            net.sample(0, 0, i);
        }
        CHECK.same("sent", net.count(1), 70);
        CHECK.same("pending", net.count(2), 64);
        CHECK.same("lost", net.count(3), 6);
        CHECK.same("the last one", net.count(263), 63);
        net.drop(0);
        net.sample(0, 0, 70);
        CHECK.same("the first one", net.count(200), 1);
        CHECK.same("the last one", net.count(263), 70);
        CHECK.same("no more", net.count(264), -1);
    }
}
