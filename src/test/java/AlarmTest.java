/** Promises 16 and 17: alarms at the device and at the station, acknowledging and inhibiting. */
public final class AlarmTest {
    private static final Check CHECK = new Check();

    public static void main(String[] args) {
        limitAndDelay();
        staysAboveSince();
        latching();
        acknowledgedAtTheDevice();
        acknowledgeRefused();
        stationKnows();
        stationSounds();
        deviceSounds();
        levels();
        inhibit();
        inhibitionEndsWithinATick();
        inhibitShortened();
        inhibitRefused();
        untied();
        CHECK.end();
    }

    private static void limitAndDelay() {
        BedsideNet net = Ward.alarmed(2, 1000);
        net.sample(0, 0, 40);
        net.tick(1000);
        CHECK.same("at the limit", net.look(0, 10), 1);
        net.sample(0, 0, 41);
        net.tick(999);
        CHECK.same("999", net.look(0, 10), 1);
        CHECK.same("value and alarm", net.tick(1), 2);
        CHECK.same("1000", net.look(0, 10), 2);
        net = Ward.alarmed(3, 0);
        net.sample(0, 0, 41);
        CHECK.same("at once with 0", net.look(0, 10), 2);
        CHECK.same("the value goes first", net.message(0, 0), 1);
        CHECK.same("then the alarm", net.message(1, 0), 2);
        CHECK.same("on", net.message(1, 4), 1);
        net.sample(0, 0, 99);
        CHECK.same("no alarm anew", net.count(1), 3);
        net.sample(0, 0, 40);
        CHECK.same("off", net.look(0, 10), 1);
        CHECK.same("told", net.message(4, 0), 2);
        CHECK.same("off", net.message(4, 4), 0);
    }

    private static void staysAboveSince() {
        BedsideNet net = Ward.alarmed(2, 1000);
        net.sample(0, 0, 50);
        net.tick(600);
        net.sample(0, 0, 60);
        net.tick(400);
        CHECK.same("another value above goes on", net.look(0, 10), 2);
        net = Ward.alarmed(2, 1000);
        net.sample(0, 0, 50);
        net.tick(600);
        net.sample(0, 0, 40);
        net.sample(0, 0, 50);
        net.tick(999);
        CHECK.same("one below begins anew", net.look(0, 10), 1);
        net.tick(1);
        CHECK.same("1000 from there", net.look(0, 10), 2);
    }

    private static void latching() {
        BedsideNet net = Ward.alarmed(1, 0);
        net.sample(0, 0, 50);
        net.carry(1, false);
        net.sample(0, 0, 0);
        CHECK.same("priority 1 stays", net.look(0, 10), 2);
        net.acknowledge(0, 0);
        CHECK.same("until it is acknowledged at the device", net.look(0, 10), 2);
        int before = net.count(1);
        Ward.carryNewest(net);
        CHECK.same("then it is off", net.look(0, 10), 1);
        CHECK.same("which is told", net.count(1), before + 1);
        net.sample(0, 0, 50);
        CHECK.same("what was acknowledged is gone", net.look(0, 10), 2);
        for (int priority = 2; priority <= 3; priority++) {
            net = Ward.alarmed(priority, 0);
            net.sample(0, 0, 50);
            net.sample(0, 0, 0);
            CHECK.same("priority " + priority + " does not", net.look(0, 10), 1);
        }
    }

    private static void acknowledgedAtTheDevice() {
        BedsideNet net = Ward.alarmed(1, 0);
        net.sample(0, 0, 50);
        net.carry(1, false);
        net.acknowledge(0, 0);
        int heard = Ward.newest(net);
        net.carry(heard, true);
        CHECK.same("ON and acknowledged", net.look(0, 10), 3);
        CHECK.same("no level", net.look(0, 11), -1);
        CHECK.same("silent", net.look(0, 5), 0);
        net.sample(0, 0, 0);
        CHECK.same("off", net.look(0, 10), 1);
        net.carry(heard, true);
        CHECK.same("nothing to acknowledge", net.look(0, 10), 1);
        net.sample(0, 0, 50);
        CHECK.same("ON anew", net.look(0, 10), 2);
        net.carry(heard, true);
        CHECK.same("come again, acknowledged again", net.look(0, 10), 3);
        net.restart(0);
        net.confirm(0);
        net.sample(0, 0, 50);
        net.carry(heard, true);
        CHECK.same("of an earlier life it does nothing", net.look(0, 10), 2);
    }

    private static void acknowledgeRefused() {
        BedsideNet net = Ward.alarmed(2, 0);
        CHECK.no("device -1", net.acknowledge(-1, 0));
        CHECK.no("device 8", net.acknowledge(8, 0));
        CHECK.no("not begun", net.acknowledge(1, 0));
        CHECK.no("channel -1", net.acknowledge(0, -1));
        CHECK.no("channel 1", net.acknowledge(0, 1));
        CHECK.no("channel 4", net.acknowledge(0, 4));
        net.sample(0, 0, 50);
        CHECK.no("ON, but the station does not know", net.acknowledge(0, 0));
        net.carry(1, false);
        net.sample(0, 0, 0);
        CHECK.yes("off, but the station does not know", net.acknowledge(0, 0));
        CHECK.no("again", net.acknowledge(0, 0));
        net.carry(4, false);
        CHECK.no("known off", net.acknowledge(0, 0));
    }

    private static void stationKnows() {
        BedsideNet net = Ward.alarmed(2, 0);
        CHECK.same("none", net.look(0, 14), 0);
        net.sample(0, 0, 50);
        net.sample(0, 0, 0);
        net.sample(0, 0, 50);
        // The ALARMs are 1 (ON), 3 (off) and 5 (ON).
        net.carry(3, true);
        CHECK.same("off", net.look(0, 14), 1);
        net.carry(1, false);
        CHECK.same("not by one with a lesser number", net.look(0, 14), 1);
        CHECK.same("which sends nothing", net.count(1), 6);
        net.carry(5, true);
        CHECK.same("ON", net.look(0, 14), 2);
        CHECK.same("SOUNDS is sent", net.message(6, 0), 3);
        net.carry(3, true);
        CHECK.same("off comes late", net.look(0, 14), 2);
        net.acknowledge(0, 0);
        CHECK.same("acknowledged there", net.look(0, 14), 3);
        CHECK.same("not here", net.look(0, 10), 2);
        net.carry(5, true);
        CHECK.same("the same one again is not anew", net.look(0, 14), 3);
        net.sample(0, 0, 0);
        net.sample(0, 0, 50);
        net.carry(Ward.newest(net), false);
        CHECK.same("ON anew", net.look(0, 14), 2);
        net.sample(0, 0, 0);
        int off = Ward.newest(net);
        net.restart(0);
        CHECK.same("a restart tells the station nothing", net.look(0, 14), 2);
        net.carry(off, false);
        CHECK.same("one of an earlier life does nothing", net.look(0, 14), 2);
    }

    private static void stationSounds() {
        BedsideNet net = Ward.alarmed(2, 0);
        Ward.alarmed(net, 1, 1, 2, 0);
        net.sample(0, 0, 50);
        CHECK.same("does not know", net.count(6), 0);
        net.carry(1, false);
        CHECK.same("sounds", net.count(6), 1);
        net.sample(1, 0, 50);
        net.carry(4, false);
        net.acknowledge(0, 0);
        CHECK.same("the other one sounds", net.count(6), 1);
        Ward.dropAll(net);
        int first = net.count(1);
        CHECK.same("999: nothing", net.tick(999), 0);
        CHECK.same("1000: two values and SOUNDS of one", net.tick(1), 3);
        CHECK.same("SOUNDS", net.message(first + 2, 0), 3);
        CHECK.same("to device 1", net.message(first + 2, 1), 1);
        net.acknowledge(1, 0);
        CHECK.same("silent", net.count(6), 0);
        CHECK.same("two values", net.tick(3000), 2);
        net.sample(1, 0, 0);
        net.sample(1, 0, 50);
        Ward.carryNewest(net);
        CHECK.same("anew", net.count(6), 1);
        net.sample(1, 0, 0);
        Ward.carryNewest(net);
        CHECK.same("off", net.count(6), 0);
    }

    private static void deviceSounds() {
        BedsideNet net = Ward.alarmed(2, 0);
        net.sample(0, 0, 50);
        CHECK.same("sounds", net.look(0, 5), 1);
        net.carry(1, false);
        int sounds = Ward.newest(net);
        CHECK.same("still", net.look(0, 5), 1);
        net.carry(sounds, true);
        CHECK.same("the station does", net.look(0, 5), 0);
        net.tick(2999);
        CHECK.same("2999", net.look(0, 5), 0);
        net.tick(1);
        CHECK.same("3000", net.look(0, 5), 1);
        net.carry(sounds, true);
        CHECK.same("again", net.look(0, 5), 0);
        net.restart(0);
        net.confirm(0);
        net.sample(0, 0, 50);
        CHECK.same("when SOUNDS came is gone", net.look(0, 5), 1);
        net.carry(sounds, false);
        CHECK.same("SOUNDS of an earlier life does nothing", net.look(0, 5), 1);
        net.sample(0, 0, 0);
        CHECK.same("off", net.look(0, 5), 0);
    }

    private static void levels() {
        for (int priority = 1; priority <= 3; priority++) {
            BedsideNet net = Ward.alarmed(priority, 500);
            CHECK.same("off", net.look(0, 11), -1);
            net.sample(0, 0, 50);
            net.tick(700);
            CHECK.same("begins", net.look(0, 11), 0);
            int span = 2000 * priority;
            pass(net, span - 1);
            CHECK.same("below", net.look(0, 11), 0);
            pass(net, 1);
            CHECK.same("1", net.look(0, 11), 1);
            pass(net, span - 1);
            CHECK.same("below twice", net.look(0, 11), 1);
            pass(net, 1);
            CHECK.same("2", net.look(0, 11), 2);
            pass(net, 2 * span - 1);
            CHECK.same("below four times", net.look(0, 11), 2);
            pass(net, 1);
            CHECK.same("3", net.look(0, 11), 3);
        }
    }

    private static void pass(BedsideNet net, int ms) {
        int left = ms;
        while (left > 0) {
            int step = Math.min(left, 10000);
            net.tick(step);
            left -= step;
        }
    }

    private static void inhibit() {
        BedsideNet net = Ward.alarmed(2, 0);
        net.sample(0, 0, 50);
        CHECK.yes("inhibit", net.inhibit(0, 0, 1000));
        CHECK.same("off", net.look(0, 10), 1);
        CHECK.same("told", net.message(2, 4), 0);
        net.sample(0, 0, 60);
        CHECK.same("still", net.look(0, 10), 1);
        net.tick(999);
        CHECK.same("999", net.look(0, 10), 1);
        net.tick(1);
        CHECK.same("1000", net.look(0, 10), 2);
        net = Ward.alarmed(1, 0);
        net.sample(0, 0, 50);
        net.inhibit(0, 0, 1000);
        CHECK.same("priority 1 stays", net.look(0, 10), 2);
        net.carry(1, false);
        net.acknowledge(0, 0);
        Ward.carryNewest(net);
        CHECK.same("until it is acknowledged", net.look(0, 10), 1);
        net = Ward.alarmed(2, 0);
        net.inhibit(0, 0, 100000);
        net.restart(0);
        net.confirm(0);
        net.sample(0, 0, 50);
        CHECK.same("a restart ends it", net.look(0, 10), 2);
    }

    private static void inhibitionEndsWithinATick() {
        BedsideNet net = Ward.alarmed(2, 500);
        net.sample(0, 0, 50);
        net.inhibit(0, 0, 1000);
        net.tick(1400);
        CHECK.same("400 from its end", net.look(0, 10), 1);
        net.tick(100);
        CHECK.same("500 from its end", net.look(0, 10), 2);
        net = Ward.alarmed(2, 500);
        net.inhibit(0, 0, 100);
        net.tick(1000);
        net.sample(0, 0, 50);
        net.tick(499);
        CHECK.same("the value came later", net.look(0, 10), 1);
        net.tick(1);
        CHECK.same("500 from there", net.look(0, 10), 2);
    }

    private static void inhibitShortened() {
        BedsideNet net = Ward.alarmed(2, 500);
        net.inhibit(0, 0, 100000);
        net.sample(0, 0, 50);
        net.tick(1000);
        CHECK.yes("0 ends it", net.inhibit(0, 0, 0));
        CHECK.same("which was just now", net.look(0, 10), 1);
        net.tick(499);
        CHECK.same("499", net.look(0, 10), 1);
        net.tick(1);
        CHECK.same("500", net.look(0, 10), 2);
        CHECK.yes("0 when it is ON", net.inhibit(0, 0, 0));
        CHECK.same("leaves it ON", net.look(0, 10), 2);
        net = Ward.alarmed(2, 0);
        net.inhibit(0, 0, 5000);
        net.sample(0, 0, 50);
        net.inhibit(0, 0, 0);
        CHECK.same("at once without a delay", net.look(0, 10), 2);
    }

    private static void inhibitRefused() {
        BedsideNet net = new BedsideNet();
        net.device(0, 0);
        net.channel(0, 0, 0, 100, 1);
        net.channel(0, 0, 0, 100, 1);
        net.alarm(0, 0, 2, 40, 0);
        CHECK.no("not sealed", net.inhibit(0, 0, 1));
        net.seal(0);
        CHECK.no("device -1", net.inhibit(-1, 0, 1));
        CHECK.no("device 8", net.inhibit(8, 0, 1));
        CHECK.no("not begun", net.inhibit(1, 0, 1));
        CHECK.no("channel -1", net.inhibit(0, -1, 1));
        CHECK.no("without an alarm", net.inhibit(0, 1, 1));
        CHECK.no("channel 2", net.inhibit(0, 2, 1));
        CHECK.no("-1 ms", net.inhibit(0, 0, -1));
        CHECK.no("100001 ms", net.inhibit(0, 0, 100001));
        Ward.tie(net, 0, 0);
        net.sample(0, 0, 50);
        CHECK.same("nothing of it held", net.look(0, 10), 2);
        CHECK.yes("100000 ms", net.inhibit(0, 0, 100000));
    }

    private static void untied() {
        BedsideNet net = Ward.alarmed(2, 1000);
        net.sample(0, 0, 50);
        net.patient(0, 0);
        CHECK.same("the alarm alone is sent", net.tick(1000), 1);
        CHECK.same("ON without a patient", net.look(0, 10), 2);
    }
}
