/** Promise 11: time, what is sent anew in a tick, and in which order. */
public final class TickTest {
    private static final Check CHECK = new Check();

    public static void main(String[] args) {
        wrongTimes();
        valuesAnew();
        onlyOfThisTie();
        order();
        lostOnesCount();
        soundsAnew();
        allByNumbers();
        fourChannels();
        lastTime();
        CHECK.end();
    }

    private static void wrongTimes() {
        BedsideNet net = new BedsideNet();
        int[] wrong = {0, -1, 10001, Integer.MIN_VALUE, Integer.MAX_VALUE};
        for (int ms : wrong) {
            CHECK.throwing("tick " + ms, IllegalArgumentException.class, () -> net.tick(ms));
        }
        CHECK.same("time stands", net.count(0), 0);
        CHECK.same("1", net.tick(1), 0);
        CHECK.same("10000", net.tick(10000), 0);
        CHECK.same("time", net.count(0), 10001);
    }

    private static void valuesAnew() {
        BedsideNet net = Ward.monitor();
        net.bind(0, 0);
        net.sample(0, 0, 7);
        CHECK.same("999", net.tick(999), 0);
        CHECK.same("1000", net.tick(1), 1);
        CHECK.same("once in a tick", net.tick(5000), 1);
        CHECK.same("since the last one", net.tick(999), 0);
        Ward.carryNewest(net);
        CHECK.same("value", net.shown(0, 0), 7);
        CHECK.same("measured when it was", net.shown(0, 1), 6999);
        net.sample(0, 0, 8);
        CHECK.same("a sample counts", net.tick(999), 0);
        CHECK.same("then anew", net.tick(1), 1);
        CHECK.same("the new value", net.message(Ward.newest(net), 4), 8);
        net.patient(0, 0);
        CHECK.same("not when it is not tied", net.tick(2000), 0);
    }

    private static void onlyOfThisTie() {
        BedsideNet net = Ward.monitor();
        net.sample(0, 0, 7);
        net.patient(0, 6);
        net.confirm(0);
        CHECK.same("a value of another tie", net.tick(2000), 0);
        net.move(0, 0);
        net.confirm(0);
        CHECK.same("also with the same patient", net.tick(2000), 0);
        net.sample(0, 0, 7);
        CHECK.same("of this", net.tick(1000), 1);
        net.restart(0);
        net.confirm(0);
        CHECK.same("of another life", net.tick(2000), 0);
    }

    private static void order() {
        BedsideNet net = new BedsideNet();
        for (int device = 2; device >= 1; device--) {
            net.device(device, 0);
            net.channel(device, 0, 0, 100, 1);
            net.channel(device, 0, 0, 100, 1);
            net.alarm(device, 0, 2, 40, 0);
            net.alarm(device, 1, 2, 40, 1000);
            net.seal(device);
            net.patient(0, 5);
            net.confirm(device);
            net.sample(device, 1, 50);
            net.sample(device, 0, 50);
            Ward.carryNewest(net);
        }
        Ward.dropAll(net);
        int first = net.count(1);
        CHECK.same("sent", net.tick(1000), 8);
        int[][] due = {{1, 1, 0}, {1, 1, 1}, {1, 2, 0}, {1, 2, 1}, {2, 1, 1}, {2, 2, 1}, {3, 1, 0}, {3, 2, 0}};
        for (int i = 0; i < due.length; i++) {
            for (int what = 0; what < 3; what++) {
                CHECK.same("message " + i + " what " + what, net.message(first + i, what), due[i][what]);
            }
        }
    }

    private static void lostOnesCount() {
        BedsideNet net = Ward.monitor();
        for (int i = 0; i < 64; i++) {
            net.sample(0, 0, i);
        }
        CHECK.same("pending", net.count(2), 64);
        CHECK.same("none lost", net.count(3), 0);
        CHECK.same("sent and lost", net.tick(1000), 1);
        CHECK.same("pending", net.count(2), 64);
        CHECK.same("lost", net.count(3), 1);
        CHECK.same("its number is used", net.count(1), 65);
        CHECK.no("it is not pending", net.carry(64, false));
        CHECK.same("it counts as sent", net.tick(999), 0);
        net.drop(10);
        net.sample(0, 0, 77);
        CHECK.same("room again", net.message(65, 4), 77);
        CHECK.same("lost", net.count(3), 1);
    }

    private static void soundsAnew() {
        BedsideNet net = Ward.alarmed(2, 0);
        net.tick(5000);
        net.sample(0, 0, 50);
        Ward.carryNewest(net);
        CHECK.same("999", net.tick(999), 0);
        CHECK.same("1000: VALUE and SOUNDS", net.tick(1), 2);
        CHECK.same("SOUNDS", net.message(Ward.newest(net), 0), 3);
        net.sample(0, 0, 0);
        net.sample(0, 0, 50);
        net.tick(400);
        Ward.carryNewest(net);
        CHECK.same("at once, though one was sent just now", net.message(Ward.newest(net), 0), 3);
        CHECK.same("VALUE alone", net.tick(600), 1);
        CHECK.same("SOUNDS alone", net.tick(400), 1);
    }

    /** Eight devices with four channels each, all with values above their limits; nothing is pending. */
    private static BedsideNet allChannels() {
        BedsideNet net = new BedsideNet();
        for (int device = 0; device < 8; device++) {
            net.device(device, 0);
            for (int k = 0; k < 4; k++) {
                net.channel(device, k, 0, 100, 1);
                net.alarm(device, k, 2, 40, 500);
            }
            net.seal(device);
            Ward.tie(net, device, 0);
            for (int k = 0; k < 4; k++) {
                net.sample(device, k, 50);
            }
        }
        Ward.dropAll(net);
        return net;
    }

    /** "Of all devices and channels, what happens in one call comes by numbers" */
    private static void allByNumbers() {
        BedsideNet net = allChannels();
        int first = net.count(1);
        CHECK.same("32 VALUEs and 32 ALARMs", net.tick(1000), 64);
        for (int i = 0; i < 64; i++) {
            CHECK.same("VALUEs, then ALARMs", net.message(first + i, 0), i < 32 ? 1 : 2);
            CHECK.same("device by device", net.message(first + i, 1), i % 32 / 4);
            CHECK.same("channel by channel", net.message(first + i, 2), i % 4);
        }
    }

    private static void fourChannels() {
        BedsideNet net = allChannels();
        net.tick(1000);
        for (int i = 63; i >= 32; i--) {
            net.carry(net.count(200 + i), false);
        }
        Ward.dropAll(net);
        CHECK.same("32 VALUEs and 8 SOUNDS", net.tick(1000), 40);
        CHECK.same("the last channel of the last device", net.look(7, 38), 2);
        CHECK.yes("restart", net.restart(7));
        CHECK.same("silent", net.look(7, 5), 0);
        CHECK.yes("confirm", net.confirm(7));
        CHECK.same("28 VALUEs and 8 SOUNDS", net.tick(1000), 36);
    }

    /** More calls than the document speaks of: there is no other way to the time that it names. */
    private static void lastTime() {
        BedsideNet net = new BedsideNet();
        for (int i = 0; i < 99999; i++) {
            net.tick(10000);
        }
        net.tick(9999);
        CHECK.throwing("later than that", IllegalArgumentException.class, () -> net.tick(2));
        CHECK.same("just that", net.tick(1), 0);
        CHECK.same("time", net.count(0), 1000000000);
        CHECK.throwing("later", IllegalArgumentException.class, () -> net.tick(1));
    }
}
