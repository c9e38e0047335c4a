import java.util.NoSuchElementException;

/**
 * The edges that the document names and that are neither a bound of a number (BoundsTest), a span of time (SpansTest),
 * want of room (RoomTest) nor another life (LivesTest).
 */
public final class EdgesTest {
    private static final Check CHECK = new Check();
    private static final int NONE = BedsideNet.NONE;

    public static void main(String[] args) {
        theLastOf512Calls();
        eachObjectByItself();
        tieEndsWithThePatient();
        tieEndsWithAnotherPatient();
        tieEndsByMoving();
        tieHoldsOtherwise();
        onlyMeasuredSinceTied();
        atTheLimitAndAbove();
        limitsAtTheFarthest();
        offAndOnAreToldOnce();
        priorityOneNeedsBoth();
        heardWhenItIsOff();
        acknowledgedEachByItself();
        theGreatestNumberCounts();
        theSameAlarmTwice();
        aloneOrTogetherDeviceSounds();
        theLatestByNumber();
        samePatientInAnotherTie();
        leastDeviceAndChannel();
        leastReasons();
        expectedAtTheFarthest();
        answersOutOfOrder();
        localAlsoIfItWasSo();
        describedAnew();
        inPlaceOfOneThatItHas();
        CHECK.end();
    }

    /** "An object is used for at most 512 calls after it has been made" */
    private static void theLastOf512Calls() {
        BedsideNet net = Ward.monitor();
        int made = 5;
        for (int i = 0; made + 2 < 512; i++) {
            CHECK.yes("sample", net.sample(0, 0, i % 101));
            CHECK.yes("drop", net.drop(i));
            made += 2;
        }
        CHECK.same("the last call", net.count(1), 253);
    }

    /** "No device is sealed; no patients; time 0": also of an object that is made behind another one, and stays so. */
    private static void eachObjectByItself() {
        BedsideNet first = Ward.busy().object();
        BedsideNet second = new BedsideNet();
        first.sample(0, 0, 60);
        first.tick(1000);
        for (int what = 0; what <= 6; what++) {
            CHECK.same("count " + what, second.count(what), 0);
        }
        CHECK.same("no patient", second.count(300), 0);
        for (int device = 0; device < 8; device++) {
            CHECK.same("not begun", second.look(device, 0), 0);
        }
        CHECK.yes("device", second.device(0, 3));
        CHECK.same("the first one's bed", first.look(0, 1), 0);
        CHECK.same("the first one's value", first.look(0, 13), 60);
    }

    /** "the tie ends when the bed's patient ends" */
    private static void tieEndsWithThePatient() {
        BedsideNet net = Ward.monitor();
        net.patient(0, 0);
        CHECK.same("ended", net.look(0, 4), 0);
        CHECK.no("no sample", net.sample(0, 0, 1));
        CHECK.no("none to confirm", net.confirm(0));
        net.patient(0, Ward.PATIENT);
        CHECK.same("not again by itself", net.look(0, 4), 0);
        CHECK.yes("but by a confirmation", net.confirm(0));
    }

    /** "or is another one" */
    private static void tieEndsWithAnotherPatient() {
        BedsideNet net = Ward.monitor();
        net.patient(0, 6);
        CHECK.same("ended", net.look(0, 4), 0);
        CHECK.yes("confirm", net.confirm(0));
        CHECK.same("tied to the other one", net.look(0, 4), 6);
    }

    /** "the device is moved", "(also its own)" */
    private static void tieEndsByMoving() {
        BedsideNet net = Ward.monitor();
        CHECK.yes("to its own bed", net.move(0, 0));
        CHECK.same("ended", net.look(0, 4), 0);
        net.confirm(0);
        net.patient(2, Ward.PATIENT);
        CHECK.yes("to the same patient elsewhere", net.move(0, 2));
        CHECK.same("ended", net.look(0, 4), 0);
        CHECK.yes("confirm", net.confirm(0));
        net.patient(0, 0);
        CHECK.same("the bed that it left is nothing to it", net.look(0, 4), Ward.PATIENT);
    }

    private static void tieHoldsOtherwise() {
        BedsideNet net = Ward.monitor();
        net.device(1, 0);
        net.channel(1, 0, 0, 9, 1);
        net.seal(1);
        net.confirm(1);
        CHECK.no("the same patient", net.patient(0, Ward.PATIENT));
        net.patient(1, 6);
        net.move(1, 1);
        net.restart(1);
        net.tick(10000);
        CHECK.same("still tied", net.look(0, 4), Ward.PATIENT);
    }

    /** "of each channel that has one that was measured since it was tied" */
    private static void onlyMeasuredSinceTied() {
        BedsideNet net = Ward.monitor();
        net.tick(100);
        net.sample(0, 0, 7);
        net.move(0, 0);
        net.confirm(0);
        CHECK.same("measured before, at the same time", net.tick(1000), 0);
        net.sample(0, 0, 8);
        CHECK.same("measured since", net.tick(1000), 1);
        net.patient(0, 0);
        CHECK.same("not tied", net.tick(1000), 0);
        CHECK.same("the value stays", net.look(0, 13), 8);
    }

    /** "it has a value, which is above the limit" */
    private static void atTheLimitAndAbove() {
        BedsideNet net = Ward.alarmed(2, 0);
        net.tick(10000);
        CHECK.same("no value", net.look(0, 10), 1);
        net.sample(0, 0, 40);
        CHECK.same("at the limit", net.look(0, 10), 1);
        net.sample(0, 0, 41);
        CHECK.same("above", net.look(0, 10), 2);
        net.sample(0, 0, 40);
        CHECK.same("at the limit again", net.look(0, 10), 1);
    }

    private static void limitsAtTheFarthest() {
        int[][] due = {{100000, 100000, 1}, {99999, 100000, 2}, {-100000, -100000, 1}, {-100000, -99999, 2}};
        for (int[] one : due) {
            BedsideNet net = new BedsideNet();
            net.device(0, 0);
            net.channel(0, 0, -100000, 100000, 1);
            net.alarm(0, 0, 2, one[0], 0);
            net.seal(0);
            Ward.tie(net, 0, 0);
            net.sample(0, 0, one[1]);
            CHECK.same("limit " + one[0] + " and " + one[1], net.look(0, 10), one[2]);
        }
    }

    /** "When it begins or goes off the device sends an ALARM." */
    private static void offAndOnAreToldOnce() {
        BedsideNet net = Ward.alarmed(2, 0);
        net.sample(0, 0, 50);
        CHECK.same("VALUE and ALARM", net.count(1), 2);
        net.sample(0, 0, 51);
        CHECK.same("VALUE", net.count(1), 3);
        net.sample(0, 0, 40);
        CHECK.same("VALUE and ALARM", net.count(1), 5);
        net.sample(0, 0, 39);
        CHECK.same("VALUE", net.count(1), 6);
        net.inhibit(0, 0, 100);
        CHECK.same("off already", net.count(1), 6);
        net.tick(100);
        CHECK.same("still", net.count(1), 6);
    }

    /** "of priority 1 only when it was ACKNOWLEDGED, too"; "what was acknowledged is gone then" */
    private static void priorityOneNeedsBoth() {
        BedsideNet net = Ward.alarmed(1, 0);
        net.sample(0, 0, 50);
        net.carry(1, false);
        net.acknowledge(0, 0);
        int heard = Ward.newest(net);
        net.carry(heard, true);
        CHECK.same("acknowledged, the condition is so", net.look(0, 10), 3);
        net.sample(0, 0, 40);
        CHECK.same("both", net.look(0, 10), 1);
        net.sample(0, 0, 50);
        CHECK.same("not acknowledged", net.look(0, 10), 2);
        net.sample(0, 0, 40);
        CHECK.same("the condition alone is gone", net.look(0, 10), 2);
        net.sample(0, 0, 50);
        net.sample(0, 0, 40);
        CHECK.same("again", net.look(0, 10), 2);
        int sent = net.count(1);
        net.carry(heard, false);
        CHECK.same("both", net.look(0, 10), 1);
        CHECK.same("told", net.count(1), sent + 1);
    }

    /** "the device acknowledges it when that comes, if the alarm is ON" */
    private static void heardWhenItIsOff() {
        BedsideNet net = Ward.alarmed(2, 0);
        net.sample(0, 0, 50);
        net.carry(1, false);
        net.acknowledge(0, 0);
        int heard = Ward.newest(net);
        net.sample(0, 0, 0);
        net.carry(heard, true);
        CHECK.same("off", net.look(0, 10), 1);
        net.sample(0, 0, 50);
        CHECK.same("ON, and not acknowledged ahead", net.look(0, 10), 2);
        net.carry(heard, true);
        CHECK.same("ON when it comes", net.look(0, 10), 3);
        net.sample(0, 0, 60);
        CHECK.same("it stays so", net.look(0, 10), 3);
        net.carry(heard, true);
        CHECK.same("also when it comes again", net.look(0, 10), 3);
    }

    private static void acknowledgedEachByItself() {
        BedsideNet net = twoAlarms();
        net.carry(1, false);
        net.carry(3, false);
        net.acknowledge(0, 1);
        Ward.carryNewest(net);
        CHECK.same("channel 0", net.look(0, 10), 2);
        CHECK.same("channel 1", net.look(0, 18), 3);
        CHECK.same("channel 0 at the station", net.look(0, 14), 2);
        CHECK.same("channel 1 at the station", net.look(0, 22), 3);
        CHECK.same("the device sounds", net.look(0, 5), 1);
        CHECK.same("the station sounds", net.count(6), 1);
        net.acknowledge(0, 0);
        CHECK.same("the station is silent", net.count(6), 0);
        CHECK.same("the device sounds", net.look(0, 5), 1);
        Ward.carryNewest(net);
        CHECK.same("the device is silent", net.look(0, 5), 0);
    }

    /** Two channels with alarms above 40, both ON: messages VALUE, ALARM, VALUE, ALARM. */
    private static BedsideNet twoAlarms() {
        BedsideNet net = new BedsideNet();
        net.device(0, 0);
        for (int k = 0; k < 2; k++) {
            net.channel(0, 0, 0, 100, 1);
            net.alarm(0, k, 2, 40, 0);
        }
        net.seal(0);
        Ward.tie(net, 0, 0);
        net.sample(0, 0, 50);
        net.sample(0, 1, 50);
        return net;
    }

    /** "The STATION knows of a channel what the ALARM with the greatest number that came told" */
    private static void theGreatestNumberCounts() {
        BedsideNet net = twoAlarms();
        net.sample(0, 0, 0);
        // The ALARMs of channel 0 are 1 (ON) and 5 (off), that of channel 1 is 3 (ON).
        net.carry(5, false);
        CHECK.same("off", net.look(0, 14), 1);
        net.carry(1, false);
        CHECK.same("ON comes late", net.look(0, 14), 1);
        net.carry(3, false);
        CHECK.same("of another channel it is the greatest", net.look(0, 22), 2);
    }

    /** "it is so at the station at once (until it knows it off, or anew)" */
    private static void theSameAlarmTwice() {
        BedsideNet net = Ward.alarmed(2, 0);
        net.sample(0, 0, 50);
        net.carry(1, true);
        CHECK.yes("acknowledge", net.acknowledge(0, 0));
        CHECK.same("at once", net.look(0, 14), 3);
        net.carry(1, true);
        CHECK.same("the same one is not anew", net.look(0, 14), 3);
        net.sample(0, 0, 0);
        Ward.carryNewest(net);
        CHECK.same("off", net.look(0, 14), 1);
        net.carry(1, true);
        CHECK.same("and not ON by the old one", net.look(0, 14), 1);
        net.sample(0, 0, 50);
        Ward.carryNewest(net);
        CHECK.same("anew", net.look(0, 14), 2);
        CHECK.yes("acknowledge", net.acknowledge(0, 0));
        net.sample(0, 0, 0);
        net.sample(0, 0, 50);
        Ward.carryNewest(net);
        CHECK.same("anew, though off never came", net.look(0, 14), 2);
    }

    /** "if an alarm of it is ON, not acknowledged" */
    private static void aloneOrTogetherDeviceSounds() {
        BedsideNet net = twoAlarms();
        net.sample(0, 0, 0);
        CHECK.same("one of two", net.look(0, 5), 1);
        net.sample(0, 1, 0);
        CHECK.same("none", net.look(0, 5), 0);
    }

    /** "that was sent behind the latest one that the handle has (by number)" */
    private static void theLatestByNumber() {
        BedsideNet net = Ward.monitor();
        net.bind(0, 0);
        for (int i = 0; i < 3; i++) {
            net.sample(0, 0, 10 * i);
        }
        net.carry(1, true);
        net.carry(0, false);
        CHECK.same("one before it", net.shown(0, 0), 10);
        net.tick(100);
        net.carry(1, false);
        CHECK.same("itself", net.shown(0, 0), 10);
        net.carry(2, false);
        CHECK.same("one behind it", net.shown(0, 0), 20);
    }

    /** Bound to a patient, not to a tie: a VALUE of a later tie to the same patient is one of these. */
    private static void samePatientInAnotherTie() {
        BedsideNet net = Ward.monitor();
        net.bind(0, 0);
        net.patient(0, 6);
        net.confirm(0);
        net.sample(0, 0, 1);
        Ward.carryNewest(net);
        CHECK.throwing("another patient", NoSuchElementException.class, () -> net.shown(0, 0));
        net.patient(3, Ward.PATIENT);
        net.move(0, 3);
        net.confirm(0);
        net.sample(0, 0, 2);
        Ward.carryNewest(net);
        CHECK.same("the same patient", net.shown(0, 0), 2);
    }

    /** "the least sealed and tied device of a bed, and its least channel, that has a unit" */
    private static void leastDeviceAndChannel() {
        BedsideNet net = new BedsideNet();
        for (int device = 7; device >= 0; device--) {
            net.device(device, 0);
            net.channel(device, device, 0, 9, 1);
            net.channel(device, 15, 0, 9, 1);
            net.channel(device, 15, 0, 9, 1);
            net.seal(device);
            Ward.tie(net, device, 0);
        }
        net.bind(0, 15);
        CHECK.same("device", net.shown(0, 2), 0);
        CHECK.same("channel", net.shown(0, 3), 1);
        net.bind(0, 7);
        CHECK.same("the last device", net.shown(1, 2), 7);
        net.restart(0);
        net.move(1, 1);
        net.bind(0, 15);
        CHECK.same("the least that is tied and there", net.shown(2, 2), 2);
        CHECK.same("its least channel", net.shown(2, 3), 1);
    }

    /** "refused, the least REASON of": all that are so, one after another taken away. */
    private static void leastReasons() {
        BedsideNet net = Ward.pump();
        net.order(1, 0, 61, 99);
        net.restart(0);
        judged(net, 1);
        net.order(1, 0, 61, 99);
        judged(net, 2);
        net.lease(1, 0);
        net.order(1, 0, 61, 99);
        judged(net, 3);
        net.local(0, NONE, true);
        net.order(1, 0, 61, 99);
        judged(net, 4);
        net.order(1, 0, 60, 99);
        judged(net, 5);
        net.order(1, 0, 60, 20);
        judged(net, 0);
        net.order(1, 0, 60, 60);
        judged(net, 0);
        net.order(1, 0, 60, 20);
        judged(net, 5);
    }

    private static void judged(BedsideNet net, int reason) {
        int order = net.count(5) - 1;
        Ward.carryNewest(net);
        CHECK.same("reason of " + order, net.message(Ward.newest(net), 4), reason);
        CHECK.same("waiting", net.count(100 + order), 0);
        Ward.carryNewest(net);
        CHECK.same("known of " + order, net.count(100 + order), 1 + reason);
        Ward.dropAll(net);
    }

    /** An order's value and what it expects are not looked at before it comes. */
    private static void expectedAtTheFarthest() {
        BedsideNet net = Ward.pump();
        net.lease(0, 0);
        net.local(0, NONE, true);
        int[] far = {Integer.MIN_VALUE, -100001, 100001, Integer.MAX_VALUE};
        for (int number : far) {
            net.order(0, 0, 25, number);
            judged(net, 5);
            net.order(0, 0, number, 20);
            judged(net, 4);
        }
        net.order(0, 0, NONE, 20);
        judged(net, 4);
        net.order(0, 0, 25, NONE);
        judged(net, 5);
    }

    /** "An order's answer is known when an ANSWER of it comes." */
    private static void answersOutOfOrder() {
        BedsideNet net = Ward.pump();
        net.lease(0, 0);
        net.local(0, NONE, true);
        net.order(0, 0, 25, 20);
        net.order(0, 0, 30, 20);
        net.carry(1, false);
        net.carry(0, false);
        // 2 is the ANSWER of order 1, 3 that of order 0.
        CHECK.same("the one that came first is done", net.look(0, 6), 30);
        net.carry(3, true);
        CHECK.same("order 0", net.count(100), 6);
        CHECK.same("order 1 waits", net.count(101), 0);
        net.carry(3, false);
        net.carry(2, false);
        CHECK.same("order 0", net.count(100), 6);
        CHECK.same("order 1", net.count(101), 1);
    }

    /** "REMOTE from now on, or local, as told (also if it was so)" */
    private static void localAlsoIfItWasSo() {
        BedsideNet net = Ward.pump();
        CHECK.yes("local, and was", net.local(0, NONE, false));
        CHECK.same("local", net.look(0, 8), 0);
        CHECK.yes("remote", net.local(0, NONE, true));
        CHECK.yes("remote, and was", net.local(0, NONE, true));
        CHECK.same("remote", net.look(0, 8), 1);
        CHECK.no("a value when remote", net.local(0, 20, false));
        CHECK.yes("local", net.local(0, NONE, false));
        CHECK.yes("the value that it has", net.local(0, 20, true));
        CHECK.same("remote is not looked at", net.look(0, 8), 0);
        CHECK.same("-1 is no value", net.look(0, 6), 20);
    }

    /** "A device that is not sealed is at a bed, without channels, alarms and set-point", also one that had such. */
    private static void describedAnew() {
        BedsideNet net = new BedsideNet();
        net.device(0, 1);
        for (int k = 0; k < 4; k++) {
            net.channel(0, k, 0, 9, 1);
            net.alarm(0, k, 1, 5, 0);
        }
        net.setPoint(0, 20, 60, 5);
        CHECK.yes("anew", net.device(0, 1));
        int[][] due = {{0, 1}, {1, 1}, {2, 1}, {3, 0}, {6, NONE}, {9, 0}, {10, NONE}, {12, NONE}, {14, NONE}, {34, NONE}};
        for (int[] one : due) {
            CHECK.same("look " + one[0], net.look(0, one[0]), one[1]);
        }
        CHECK.no("it has no channel", net.seal(0));
        CHECK.same("channel 0", net.channel(0, 9, 0, 100, 1), 0);
        CHECK.same("without an alarm", net.look(0, 10), 0);
        net.seal(0);
        Ward.tie(net, 0, 1);
        CHECK.no("nor an inhibition", net.inhibit(0, 0, 1));
        CHECK.no("nor a lease", net.lease(0, 0));
        net.sample(0, 0, 99);
        CHECK.same("VALUE alone", net.count(1), 1);
        CHECK.throwing("the earlier unit is gone", IllegalStateException.class, () -> net.bind(1, 0));
        CHECK.same("the later one is there", net.bind(1, 9), 0);
    }

    /** "(in place of one that it has)", of an alarm and of a set-point. */
    private static void inPlaceOfOneThatItHas() {
        BedsideNet net = new BedsideNet();
        net.device(0, 0);
        net.channel(0, 0, 0, 100, 1);
        net.alarm(0, 0, 1, 90, 5000);
        CHECK.yes("alarm", net.alarm(0, 0, 2, 40, 0));
        net.setPoint(0, 0, 1000, 100);
        CHECK.yes("set-point", net.setPoint(0, 20, 60, 5));
        CHECK.same("its low", net.look(0, 6), 20);
        net.seal(0);
        Ward.tie(net, 0, 0);
        net.sample(0, 0, 41);
        CHECK.same("its limit and delay", net.look(0, 10), 2);
        net.sample(0, 0, 40);
        CHECK.same("its priority", net.look(0, 10), 1);
        CHECK.no("its high", net.local(0, 65, false));
        CHECK.yes("its step", net.local(0, 25, false));
    }
}
