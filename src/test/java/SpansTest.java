/** Every span of time that the document names: what is answered at its last ms, and at the first one behind it. */
public final class SpansTest {
    private static final Check CHECK = new Check();
    private static final int NONE = BedsideNet.NONE;

    public static void main(String[] args) {
        valueAnewFromASample();
        valueAnewFromATick();
        valueAnewOfEachChannel();
        valueThatWasLost();
        displayHasHeardNone();
        displayHearsAnew();
        age();
        delay();
        delayBeginsAnew();
        delayRunsWithoutATie();
        delayRunsWhileMessagesCome();
        inhibition();
        inhibitionThenDelay();
        inhibitionEndsAheadOfTheValue();
        inhibitionToldAnew();
        inhibitionOfNoTime();
        soundsCame();
        soundsCameAgain();
        stationSendsSoundsAnew();
        stationSendsSoundsToEach();
        levels();
        levelsFromTheEndOfTheCall();
        leaseHeld();
        leaseTakenAnew();
        leaseWhenAnOrderComes();
        CHECK.end();
    }

    private static void pass(BedsideNet net, int ms) {
        for (int left = ms; left > 0; left -= 10000) {
            net.tick(Math.min(left, 10000));
            // Room for what comes next: these tests look at what is pending.
            Ward.dropAll(net);
        }
    }

    /** "of which no VALUE was sent for 1000 ms" */
    private static void valueAnewFromASample() {
        BedsideNet net = Ward.monitor();
        pass(net, 12345);
        net.sample(0, 0, 7);
        CHECK.same("999", net.tick(999), 0);
        CHECK.same("1000", net.tick(1), 1);
        net = Ward.monitor();
        net.sample(0, 0, 7);
        CHECK.same("1000 in one", net.tick(1000), 1);
        net = Ward.monitor();
        net.sample(0, 0, 7);
        net.tick(600);
        net.sample(0, 0, 8);
        CHECK.same("1000 from the first, not from the second", net.tick(999), 0);
        CHECK.same("1000 from the second", net.tick(1), 1);
    }

    private static void valueAnewFromATick() {
        BedsideNet net = Ward.monitor();
        net.sample(0, 0, 7);
        CHECK.same("late", net.tick(1700), 1);
        CHECK.same("999 from there", net.tick(999), 0);
        CHECK.same("1000 from there", net.tick(1), 1);
        CHECK.same("once, however long", net.tick(10000), 1);
    }

    private static void valueAnewOfEachChannel() {
        BedsideNet net = new BedsideNet();
        net.device(0, 0);
        net.channel(0, 0, 0, 100, 1);
        net.channel(0, 1, 0, 100, 1);
        net.channel(0, 2, 0, 100, 1);
        net.seal(0);
        Ward.tie(net, 0, 0);
        net.sample(0, 1, 7);
        net.tick(400);
        net.sample(0, 0, 8);
        CHECK.same("999 of channel 1", net.tick(599), 0);
        CHECK.same("1000 of channel 1", net.tick(1), 1);
        CHECK.same("it is channel 1", net.message(Ward.newest(net), 2), 1);
        CHECK.same("999 of channel 0", net.tick(399), 0);
        CHECK.same("1000 of channel 0", net.tick(1), 1);
        CHECK.same("it is channel 0", net.message(Ward.newest(net), 2), 0);
    }

    /** A message that is lost for want of room was sent. */
    private static void valueThatWasLost() {
        BedsideNet net = Ward.full().object();
        net.tick(500);
        net.sample(0, 0, 9);
        CHECK.same("lost", net.count(3), 1);
        CHECK.same("999", net.tick(999), 0);
        CHECK.same("1000", net.tick(1), 1);
        CHECK.same("lost again", net.count(3), 2);
        CHECK.same("999", net.tick(999), 0);
        CHECK.same("1000", net.tick(1), 1);
    }

    /** "It shows NOTHING if it ... has heard none for 3000 ms." */
    private static void displayHasHeardNone() {
        BedsideNet net = Ward.monitor();
        net.bind(0, 0);
        net.sample(0, 0, 7);
        net.tick(800);
        net.carry(0, false);
        net.tick(2999);
        CHECK.same("2999", net.shown(0, 0), 7);
        CHECK.same("age", net.shown(0, 1), 3799);
        net.tick(1);
        shownNothing("3000", net);
        net.tick(10000);
        shownNothing("13000", net);
    }

    private static void shownNothing(String what, BedsideNet net) {
        for (int fact = 0; fact <= 1; fact++) {
            int each = fact;
            CHECK.throwing(what, java.util.NoSuchElementException.class, () -> net.shown(0, each));
        }
        CHECK.same("the device is told", net.shown(0, 2), 0);
        CHECK.same("the channel is told", net.shown(0, 3), 0);
    }

    private static void displayHearsAnew() {
        BedsideNet net = Ward.monitor();
        net.bind(0, 0);
        net.sample(0, 0, 7);
        net.carry(0, true);
        net.tick(1000);
        net.tick(1000);
        net.carry(1, false);
        net.tick(2999);
        CHECK.same("2999 from the second", net.shown(0, 1), 4999);
        net.carry(0, true);
        net.tick(1);
        shownNothing("3000 from the second, though the first came again", net);
        net.carry(2, true);
        CHECK.same("a later one is heard", net.shown(0, 1), 5000);
        net.tick(2000);
        net.carry(2, true);
        net.tick(1000);
        shownNothing("the same one is not heard twice", net);
    }

    /** "its age (now less when it was measured)" */
    private static void age() {
        BedsideNet net = Ward.monitor();
        net.bind(0, 0);
        pass(net, 777);
        net.sample(0, 0, 7);
        net.carry(0, false);
        CHECK.same("0", net.shown(0, 1), 0);
        net.tick(1);
        CHECK.same("1", net.shown(0, 1), 1);
        net.tick(999);
        net.carry(1, false);
        CHECK.same("of one sent anew", net.shown(0, 1), 1000);
    }

    /** "The alarm begins (is ON) when that was DELAY ms ago, or more" */
    private static void delay() {
        int[] delays = {1, 2, 999, 10000, 100000};
        for (int delay : delays) {
            BedsideNet net = Ward.alarmed(2, delay);
            pass(net, 333);
            net.sample(0, 0, 41);
            pass(net, delay - 1);
            CHECK.same("a ms less than " + delay, net.look(0, 10), 1);
            CHECK.same("not told", kindSent(net), NONE);
            net.tick(1);
            CHECK.same("just " + delay, net.look(0, 10), 2);
            CHECK.same("told", kindSent(net), 2);
        }
        BedsideNet net = Ward.alarmed(2, 500);
        net.sample(0, 0, 41);
        net.tick(501);
        CHECK.same("or more", net.look(0, 10), 2);
        net = Ward.alarmed(2, 0);
        net.sample(0, 0, 41);
        CHECK.same("at once with 0", net.look(0, 10), 2);
        CHECK.same("told", kindSent(net), 2);
    }

    /** The kind of the newest message that is no VALUE, if it is pending. */
    private static int kindSent(BedsideNet net) {
        for (int i = net.count(2) - 1; i >= 0; i--) {
            int kind = net.message(net.count(200 + i), 0);
            if (kind != 1) {
                return kind;
            }
        }
        return NONE;
    }

    /** "The condition is so since the value came to be above the limit" */
    private static void delayBeginsAnew() {
        BedsideNet net = Ward.alarmed(2, 500);
        net.sample(0, 0, 41);
        net.tick(499);
        net.sample(0, 0, 99);
        net.tick(1);
        CHECK.same("it stayed above", net.look(0, 10), 2);
        net = Ward.alarmed(2, 500);
        net.sample(0, 0, 41);
        net.tick(499);
        net.sample(0, 0, 40);
        net.sample(0, 0, 41);
        net.tick(499);
        CHECK.same("it was not above", net.look(0, 10), 1);
        net.tick(1);
        CHECK.same("500 from then", net.look(0, 10), 2);
        net = Ward.alarmed(2, 500);
        net.sample(0, 0, 41);
        net.tick(499);
        net.sample(0, 0, 40);
        net.tick(1);
        CHECK.same("not above at its end", net.look(0, 10), 1);
    }

    private static void delayRunsWithoutATie() {
        BedsideNet net = Ward.alarmed(2, 500);
        net.sample(0, 0, 41);
        net.tick(100);
        net.move(0, 2);
        net.tick(399);
        CHECK.same("499", net.look(0, 10), 1);
        CHECK.same("the ALARM alone", net.tick(1), 1);
        CHECK.same("500", net.look(0, 10), 2);
    }

    private static void delayRunsWhileMessagesCome() {
        BedsideNet net = Ward.alarmed(2, 500);
        net.sample(0, 0, 41);
        net.tick(499);
        net.carry(0, false);
        CHECK.same("at the end of another call at 499", net.look(0, 10), 1);
        net.inhibit(0, 0, 0);
        CHECK.same("nothing ended it", net.look(0, 10), 1);
    }

    /** "inhibited for so many ms from now on" */
    private static void inhibition() {
        int[] spans = {1, 2, 999, 10000, 100000};
        for (int span : spans) {
            BedsideNet net = Ward.alarmed(2, 0);
            pass(net, 333);
            net.inhibit(0, 0, span);
            net.sample(0, 0, 41);
            CHECK.same("inhibited", net.look(0, 10), 1);
            pass(net, span - 1);
            CHECK.same("a ms less than " + span, net.look(0, 10), 1);
            net.tick(1);
            CHECK.same("just " + span, net.look(0, 10), 2);
        }
    }

    /** "or the inhibition ended, if that was later" */
    private static void inhibitionThenDelay() {
        BedsideNet net = Ward.alarmed(2, 500);
        net.sample(0, 0, 41);
        net.tick(200);
        net.inhibit(0, 0, 1000);
        net.tick(1000);
        CHECK.same("at its end", net.look(0, 10), 1);
        net.tick(499);
        CHECK.same("499 from its end", net.look(0, 10), 1);
        net.tick(1);
        CHECK.same("500 from its end", net.look(0, 10), 2);
        net = Ward.alarmed(2, 500);
        net.sample(0, 0, 41);
        net.inhibit(0, 0, 1000);
        net.tick(1499);
        CHECK.same("it ended within a tick, 499", net.look(0, 10), 1);
        net.tick(1);
        CHECK.same("it ended within a tick, 500", net.look(0, 10), 2);
        net = Ward.alarmed(2, 500);
        net.sample(0, 0, 41);
        net.inhibit(0, 0, 1000);
        net.tick(1500);
        CHECK.same("all in one", net.look(0, 10), 2);
    }

    private static void inhibitionEndsAheadOfTheValue() {
        BedsideNet net = Ward.alarmed(2, 500);
        net.inhibit(0, 0, 1000);
        net.tick(1001);
        net.sample(0, 0, 41);
        net.tick(499);
        CHECK.same("499 from the value", net.look(0, 10), 1);
        net.tick(1);
        CHECK.same("500 from the value", net.look(0, 10), 2);
        net = Ward.alarmed(2, 500);
        net.inhibit(0, 0, 1000);
        net.tick(999);
        net.sample(0, 0, 41);
        net.tick(500);
        CHECK.same("500 from the value, 499 from its end", net.look(0, 10), 1);
        net.tick(1);
        CHECK.same("500 from its end", net.look(0, 10), 2);
    }

    private static void inhibitionToldAnew() {
        BedsideNet net = Ward.alarmed(2, 0);
        net.sample(0, 0, 41);
        net.inhibit(0, 0, 1000);
        net.tick(900);
        net.inhibit(0, 0, 1000);
        net.tick(999);
        CHECK.same("longer, 999", net.look(0, 10), 1);
        net.tick(1);
        CHECK.same("longer, 1000", net.look(0, 10), 2);
        net.inhibit(0, 0, 1000);
        net.inhibit(0, 0, 10);
        net.tick(9);
        CHECK.same("shorter, 9", net.look(0, 10), 1);
        net.tick(1);
        CHECK.same("shorter, 10", net.look(0, 10), 2);
    }

    private static void inhibitionOfNoTime() {
        BedsideNet net = Ward.alarmed(2, 0);
        net.sample(0, 0, 41);
        net.inhibit(0, 0, 0);
        CHECK.same("0: it stays ON", net.look(0, 10), 2);
        CHECK.same("0: nothing is sent", net.count(1), 2);
        net.inhibit(0, 0, 1);
        CHECK.same("1: it is off", net.look(0, 10), 1);
        CHECK.same("1: that is told", net.message(2, 4), 0);
        net.tick(1);
        CHECK.same("for 1 ms", net.look(0, 10), 2);
    }

    /** "no SOUNDS came to it in the last 3000 ms (less than 3000 ago)" */
    private static void soundsCame() {
        BedsideNet net = Ward.alarmed(2, 0);
        pass(net, 4321);
        net.sample(0, 0, 50);
        Ward.carryNewest(net);
        CHECK.same("before", net.look(0, 5), 1);
        Ward.carryNewest(net);
        CHECK.same("0 ago", net.look(0, 5), 0);
        net.tick(2999);
        CHECK.same("2999 ago", net.look(0, 5), 0);
        net.tick(1);
        CHECK.same("3000 ago", net.look(0, 5), 1);
    }

    private static void soundsCameAgain() {
        BedsideNet net = Ward.alarmed(2, 0);
        net.sample(0, 0, 50);
        net.carry(1, false);
        net.carry(2, true);
        net.tick(2000);
        net.carry(2, true);
        net.tick(2999);
        CHECK.same("2999 from when it came again", net.look(0, 5), 0);
        net.tick(1);
        CHECK.same("3000 from when it came again", net.look(0, 5), 1);
        net.sample(0, 0, 0);
        net.carry(2, true);
        net.sample(0, 0, 50);
        CHECK.same("it came while no alarm was ON", net.look(0, 5), 0);
    }

    /** "in a tick, too, ... if it sent it none for 1000 ms" */
    private static void stationSendsSoundsAnew() {
        BedsideNet net = Ward.alarmed(2, 0);
        pass(net, 4321);
        net.sample(0, 0, 50);
        net.move(0, 0);
        net.tick(700);
        Ward.carryNewest(net);
        CHECK.same("999", net.tick(999), 0);
        CHECK.same("1000", net.tick(1), 1);
        CHECK.same("SOUNDS", net.message(Ward.newest(net), 0), 3);
        CHECK.same("late", net.tick(1500), 1);
        CHECK.same("999 from there", net.tick(999), 0);
        CHECK.same("1000 from there", net.tick(1), 1);
        CHECK.same("once, however long", net.tick(10000), 1);
    }

    private static void stationSendsSoundsToEach() {
        BedsideNet net = Ward.alarmed(2, 0);
        Ward.alarmed(net, 5, 1, 2, 0);
        net.sample(0, 0, 50);
        net.sample(5, 0, 50);
        net.move(0, 0);
        net.move(5, 1);
        net.carry(3, false);
        net.tick(600);
        net.carry(1, false);
        CHECK.same("999 to device 5", net.tick(399), 0);
        CHECK.same("1000 to device 5", net.tick(1), 1);
        CHECK.same("it is for device 5", net.message(Ward.newest(net), 1), 5);
        CHECK.same("999 to device 0", net.tick(599), 0);
        CHECK.same("1000 to device 0", net.tick(1), 1);
        CHECK.same("it is for device 0", net.message(Ward.newest(net), 1), 0);
    }

    /** "below 2000 * priority 0, below twice that 1, below four times that 2, else 3" */
    private static void levels() {
        for (int priority = 1; priority <= 3; priority++) {
            int span = 2000 * priority;
            int[] ages = {0, span - 1, span, 2 * span - 1, 2 * span, 4 * span - 1, 4 * span, 20 * span};
            int[] due = {0, 0, 1, 1, 2, 2, 3, 3};
            for (int i = 0; i < ages.length; i++) {
                BedsideNet net = Ward.alarmed(priority, 0);
                pass(net, 333);
                net.sample(0, 0, 50);
                pass(net, ages[i]);
                CHECK.same("priority " + priority + " at " + ages[i], net.look(0, 11), due[i]);
            }
        }
    }

    /** "by the time since it began", and it begins "at the end of a call". */
    private static void levelsFromTheEndOfTheCall() {
        BedsideNet net = Ward.alarmed(1, 100);
        net.sample(0, 0, 50);
        net.tick(5000);
        CHECK.same("it begins", net.look(0, 11), 0);
        net.tick(1999);
        CHECK.same("1999", net.look(0, 11), 0);
        net.tick(1);
        CHECK.same("2000", net.look(0, 11), 1);
        net.carry(2, false);
        net.acknowledge(0, 0);
        Ward.carryNewest(net);
        CHECK.same("acknowledged", net.look(0, 11), NONE);
        net.sample(0, 0, 0);
        CHECK.same("off", net.look(0, 11), NONE);
        net.sample(0, 0, 50);
        net.tick(100);
        CHECK.same("it begins anew", net.look(0, 11), 0);
    }

    /** "takes the LEASE of a device for 10000 ms, if no other one has it (less than 10000 ago)" */
    private static void leaseHeld() {
        BedsideNet net = Ward.pump();
        net.tick(77);
        CHECK.yes("takes it", net.lease(1, 0));
        CHECK.no("another one, 0 ago", net.lease(2, 0));
        net.tick(9999);
        CHECK.same("has it, 9999 ago", net.look(0, 7), 1);
        CHECK.no("another one, 9999 ago", net.lease(2, 0));
        net.tick(1);
        CHECK.same("has it no more, 10000 ago", net.look(0, 7), NONE);
        CHECK.yes("another one, 10000 ago", net.lease(2, 0));
        CHECK.no("the first one now", net.lease(1, 0));
    }

    private static void leaseTakenAnew() {
        BedsideNet net = Ward.pump();
        net.lease(1, 0);
        net.tick(9999);
        CHECK.yes("anew, 9999 ago", net.lease(1, 0));
        net.tick(9999);
        CHECK.same("9999 from there", net.look(0, 7), 1);
        net.tick(1);
        CHECK.same("10000 from there", net.look(0, 7), NONE);
        CHECK.yes("the same one takes it again", net.lease(1, 0));
        CHECK.same("has it", net.look(0, 7), 1);
    }

    /** "2 the controller has no lease", when the order comes, not when it was sent. */
    private static void leaseWhenAnOrderComes() {
        int[] spans = {9999, 10000};
        for (int span : spans) {
            BedsideNet net = Ward.pump();
            net.lease(1, 0);
            net.local(0, NONE, true);
            net.order(1, 0, 25, 20);
            net.tick(span);
            net.carry(0, false);
            CHECK.same("reason at " + span, net.message(1, 4), span < 10000 ? 0 : 2);
            CHECK.same("value at " + span, net.look(0, 6), span < 10000 ? 25 : 20);
        }
        BedsideNet net = Ward.pump();
        net.order(1, 0, 25, 20);
        net.local(0, NONE, true);
        net.lease(1, 0);
        net.carry(0, false);
        CHECK.same("a lease taken behind the order", net.message(1, 4), 0);
    }
}
