/**
 * The bounds of the document's "Terms", each at the last number that is taken and the first one that is not. That what
 * is refused changes nothing is looked at in RefusedTest.
 */
public final class BoundsTest {
    private static final Check CHECK = new Check();
    private static final String ARGUMENT = "IllegalArgumentException";
    private static final String STATE = "IllegalStateException";

    public static void main(String[] args) {
        devices();
        beds();
        channels();
        units();
        priorities();
        limits();
        delays();
        numbersOfChannels();
        numbersOfSetPoints();
        steps();
        lowIsNotAboveHigh();
        fitsFromLowToHigh();
        fitsByStepsFromLow();
        fitsWhereHighIsNoStep();
        fitsAtTheFarthest();
        patients();
        controllers();
        inhibitions();
        ticks();
        displays();
        orders();
        firstState();
        CHECK.end();
    }

    private static void answers(String what, BedsideNet net, String due, Script.Call call) {
        String answer = Script.answer(net, call);
        if (!answer.equals(due)) {
            CHECK.tell(what + " answered " + answer + ", due is " + due);
        }
    }

    private static BedsideNet begun() {
        BedsideNet net = new BedsideNet();
        net.device(0, 0);
        net.channel(0, 0, 0, 100, 1);
        return net;
    }

    /** "DEVICES 0 .. 7": all of them can be described, can work, and can be looked at. */
    private static void devices() {
        BedsideNet net = new BedsideNet();
        for (int device = -1; device <= 8; device++) {
            int each = device;
            boolean isOne = device >= 0 && device <= 7;
            String yes = isOne ? "true" : "false";
            answers("device " + device, net, yes, n -> n.device(each, 0));
            answers("channel of " + device, net, isOne ? "0" : ARGUMENT, n -> n.channel(each, 0, 0, 100, 1));
            answers("alarm of " + device, net, yes, n -> n.alarm(each, 0, 2, 40, 0));
            answers("setPoint of " + device, net, yes, n -> n.setPoint(each, 20, 60, 5));
            answers("seal " + device, net, yes, n -> n.seal(each));
            answers("move " + device, net, yes, n -> n.move(each, 1));
            net.patient(1, Ward.PATIENT);
            answers("confirm " + device, net, yes, n -> n.confirm(each));
            answers("sample of " + device, net, yes, n -> n.sample(each, 0, 50));
            Ward.carryNewest(net);
            answers("acknowledge of " + device, net, yes, n -> n.acknowledge(each, 0));
            answers("inhibit of " + device, net, yes, n -> n.inhibit(each, 0, 100));
            answers("lease of " + device, net, yes, n -> n.lease(0, each));
            answers("order to " + device, net, isOne ? "" + device : ARGUMENT, n -> n.order(0, each, 25, 20));
            answers("local of " + device, net, yes, n -> n.local(each, 25, false));
            answers("restart of " + device, net, yes, n -> n.restart(each));
            answers("look at " + device, net, isOne ? "2" : "IndexOutOfBoundsException", n -> n.look(each, 0));
        }
    }

    /** "are at a BED 0 .. 3" */
    private static void beds() {
        BedsideNet net = begun();
        net.seal(0);
        for (int bed = -1; bed <= 4; bed++) {
            int each = bed;
            boolean isOne = bed >= 0 && bed <= 3;
            String yes = isOne ? "true" : "false";
            answers("device at " + bed, net, yes, n -> n.device(1, each));
            answers("move to " + bed, net, yes, n -> n.move(0, each));
            answers("patient of " + bed, net, yes, n -> n.patient(each, 10 + each));
            CHECK.same("confirmed at " + bed, net.confirm(0) ? 1 : 0, isOne ? 1 : 0);
            answers("bind at " + bed, net, isOne ? "" + bed : ARGUMENT, n -> n.bind(each, 0));
            if (isOne) {
                CHECK.same("begun at " + bed, net.look(1, 1), bed);
                CHECK.same("moved to " + bed, net.look(0, 1), bed);
                CHECK.same("tied at " + bed, net.look(0, 4), 10 + bed);
            }
        }
        int[] due = {-1, 10, 11, 12, 13, -1};
        for (int i = 0; i < due.length; i++) {
            CHECK.same("patient of bed " + (i - 1), net.count(299 + i), due[i]);
        }
    }

    /** "CHANNELS 0, 1, .. (4 at most)" */
    private static void channels() {
        BedsideNet net = new BedsideNet();
        net.device(0, 0);
        for (int k = 0; k < 4; k++) {
            answers("alarm of the next channel " + k, net, "false", n -> n.alarm(0, n.look(0, 3), 2, 40, 0));
            answers("channel " + k, net, "" + k, n -> n.channel(0, 0, 0, 100, 1));
            answers("alarm of channel " + k, net, "true", n -> n.alarm(0, n.look(0, 3) - 1, 2, 40, 0));
            CHECK.same("channels", net.look(0, 3), k + 1);
        }
        answers("a fifth", net, STATE, n -> n.channel(0, 0, 0, 100, 1));
        net.seal(0);
        Ward.tie(net, 0, 0);
        for (int k = -1; k <= 4; k++) {
            int each = k;
            String yes = k >= 0 && k <= 3 ? "true" : "false";
            answers("sample of channel " + k, net, yes, n -> n.sample(0, each, 50));
            Ward.carryNewest(net);
            answers("acknowledge of channel " + k, net, yes, n -> n.acknowledge(0, each));
            answers("inhibit of channel " + k, net, yes, n -> n.inhibit(0, each, 100));
        }
    }

    /** "each with a UNIT 0 .. 15" */
    private static void units() {
        BedsideNet net = new BedsideNet();
        for (int unit = -1; unit <= 16; unit++) {
            int each = unit;
            boolean isOne = unit >= 0 && unit <= 15;
            net.device(0, 0);
            answers("unit " + unit, net, isOne ? "0" : ARGUMENT, n -> n.channel(0, each, 0, 100, 1));
        }
        net.device(0, 0);
        net.channel(0, 15, 0, 100, 1);
        net.channel(0, 0, 0, 100, 1);
        net.seal(0);
        Ward.tie(net, 0, 0);
        answers("bind unit -1", net, ARGUMENT, n -> n.bind(0, -1));
        answers("bind unit 0", net, "0", n -> n.bind(0, 0));
        answers("bind unit 15", net, "1", n -> n.bind(0, 15));
        answers("bind unit 16", net, ARGUMENT, n -> n.bind(0, 16));
        CHECK.same("channel of unit 0", net.shown(0, 3), 1);
        CHECK.same("channel of unit 15", net.shown(1, 3), 0);
    }

    /** "a PRIORITY 1 .. 3" */
    private static void priorities() {
        for (int priority = 0; priority <= 4; priority++) {
            int each = priority;
            String due = priority >= 1 && priority <= 3 ? "true" : "false";
            answers("priority " + priority, begun(), due, n -> n.alarm(0, 0, each, 40, 0));
        }
    }

    /** A LIMIT is one of "all these numbers": "-100000 .. 100000". */
    private static void limits() {
        answers("limit -100001", begun(), "false", n -> n.alarm(0, 0, 2, -100001, 0));
        answers("limit -100000", begun(), "true", n -> n.alarm(0, 0, 2, -100000, 0));
        answers("limit 100000", begun(), "true", n -> n.alarm(0, 0, 2, 100000, 0));
        answers("limit 100001", begun(), "false", n -> n.alarm(0, 0, 2, 100001, 0));
    }

    /** "delay (0 .. 100000)" */
    private static void delays() {
        answers("delay -1", begun(), "false", n -> n.alarm(0, 0, 2, 40, -1));
        answers("delay 0", begun(), "true", n -> n.alarm(0, 0, 2, 40, 0));
        answers("delay 100000", begun(), "true", n -> n.alarm(0, 0, 2, 40, 100000));
        answers("delay 100001", begun(), "false", n -> n.alarm(0, 0, 2, 40, 100001));
    }

    /** "All these numbers and values are -100000 .. 100000" */
    private static void numbersOfChannels() {
        answers("low -100001", begun(), ARGUMENT, n -> n.channel(0, 0, -100001, 9, 1));
        answers("low -100000", begun(), "1", n -> n.channel(0, 0, -100000, 9, 1));
        answers("low 100000", begun(), "1", n -> n.channel(0, 0, 100000, 100000, 1));
        answers("low and high 100001", begun(), ARGUMENT, n -> n.channel(0, 0, 100001, 100001, 1));
        answers("high 100000", begun(), "1", n -> n.channel(0, 0, 0, 100000, 1));
        answers("high 100001", begun(), ARGUMENT, n -> n.channel(0, 0, 0, 100001, 1));
        answers("high -100000", begun(), "1", n -> n.channel(0, 0, -100000, -100000, 1));
        answers("low and high -100001", begun(), ARGUMENT, n -> n.channel(0, 0, -100001, -100001, 1));
    }

    /** "All these numbers and values are -100000 .. 100000", of a set-point. */
    private static void numbersOfSetPoints() {
        answers("low -100001", begun(), "false", n -> n.setPoint(0, -100001, 9, 1));
        answers("low -100000", begun(), "true", n -> n.setPoint(0, -100000, 9, 1));
        answers("low 100000", begun(), "true", n -> n.setPoint(0, 100000, 100000, 1));
        answers("low and high 100001", begun(), "false", n -> n.setPoint(0, 100001, 100001, 1));
        answers("high 100000", begun(), "true", n -> n.setPoint(0, 0, 100000, 1));
        answers("high 100001", begun(), "false", n -> n.setPoint(0, 0, 100001, 1));
        answers("high -100000", begun(), "true", n -> n.setPoint(0, -100000, -100000, 1));
        answers("low and high -100001", begun(), "false", n -> n.setPoint(0, -100001, -100001, 1));
    }

    /** "steps 1 and more", and as all these numbers at most 100000. */
    private static void steps() {
        int[] steps = {-1, 0, 1, 100000, 100001};
        for (int step : steps) {
            boolean isOne = step >= 1 && step <= 100000;
            answers("channel by " + step, begun(), isOne ? "1" : ARGUMENT, n -> n.channel(0, 0, 0, 9, step));
            answers("set-point by " + step, begun(), isOne ? "true" : "false", n -> n.setPoint(0, 0, 9, step));
        }
    }

    /** "low is not above high" */
    private static void lowIsNotAboveHigh() {
        answers("channel 8 .. 9", begun(), "1", n -> n.channel(0, 0, 8, 9, 1));
        answers("channel 9 .. 9", begun(), "1", n -> n.channel(0, 0, 9, 9, 1));
        answers("channel 10 .. 9", begun(), ARGUMENT, n -> n.channel(0, 0, 10, 9, 1));
        answers("set-point 8 .. 9", begun(), "true", n -> n.setPoint(0, 8, 9, 1));
        answers("set-point 9 .. 9", begun(), "true", n -> n.setPoint(0, 9, 9, 1));
        answers("set-point 10 .. 9", begun(), "false", n -> n.setPoint(0, 10, 9, 1));
    }

    /** Looks at a value where it is measured, set at the device and ordered. */
    private static void fits(int low, int high, int step, int value, boolean due) {
        BedsideNet net = new BedsideNet();
        net.device(0, 0);
        net.channel(0, 0, low, high, step);
        net.setPoint(0, low, high, step);
        net.seal(0);
        Ward.tie(net, 0, 0);
        String what = low + " .. " + high + " by " + step + " and " + value;
        answers("sample " + what, net, due ? "true" : "false", n -> n.sample(0, 0, value));
        CHECK.same("value " + what, net.look(0, 13), due ? value : BedsideNet.NONE);
        net.lease(0, 0);
        net.local(0, BedsideNet.NONE, true);
        net.order(0, 0, value, low);
        Ward.carryNewest(net);
        CHECK.same("reason " + what, net.message(Ward.newest(net), 4), due ? 0 : 4);
        CHECK.same("ordered " + what, net.look(0, 6), due ? value : low);
        net.local(0, BedsideNet.NONE, false);
        net.local(0, low, false);
        if (value != BedsideNet.NONE) {
            answers("local " + what, net, due ? "true" : "false", n -> n.local(0, value, false));
            CHECK.same("set " + what, net.look(0, 6), due ? value : low);
        }
    }

    /** "A value FITS if it is low .. high" */
    private static void fitsFromLowToHigh() {
        fits(-3, 7, 1, -4, false);
        fits(-3, 7, 1, -3, true);
        fits(-3, 7, 1, 7, true);
        fits(-3, 7, 1, 8, false);
        fits(7, 7, 1, 6, false);
        fits(7, 7, 1, 7, true);
        fits(7, 7, 1, 8, false);
    }

    /** "and value - low is a multiple of step" */
    private static void fitsByStepsFromLow() {
        fits(3, 30, 9, 11, false);
        fits(3, 30, 9, 12, true);
        fits(3, 30, 9, 13, false);
        fits(3, 30, 9, 9, false);
        fits(3, 30, 9, 30, true);
        fits(3, 30, 9, -6, false);
        fits(3, 30, 9, 39, false);
        fits(-10, 10, 7, -3, true);
        fits(-10, 10, 7, 0, false);
        fits(-10, 10, 7, 4, true);
    }

    /** Where high is no whole number of steps from low it does not fit, nor does a step beyond it. */
    private static void fitsWhereHighIsNoStep() {
        fits(0, 10, 4, 8, true);
        fits(0, 10, 4, 10, false);
        fits(0, 10, 4, 12, false);
        fits(5, 9, 100000, 5, true);
        fits(5, 9, 100000, 9, false);
    }

    /** The widest range, and values so far off that a difference would wrap around. */
    private static void fitsAtTheFarthest() {
        fits(-100000, 100000, 100000, -100001, false);
        fits(-100000, 100000, 100000, -100000, true);
        fits(-100000, 100000, 100000, 0, true);
        fits(-100000, 100000, 100000, 1, false);
        fits(-100000, 100000, 100000, 100000, true);
        fits(-100000, 100000, 100000, 100001, false);
        fits(-100000, 100000, 1, Integer.MIN_VALUE, false);
        fits(-100000, 100000, 1, Integer.MAX_VALUE, false);
        fits(100000, 100000, 1, Integer.MIN_VALUE, false);
        fits(-100000, -100000, 1, Integer.MAX_VALUE, false);
        fits(-100000, -100000, 1, Integer.MIN_VALUE, false);
    }

    /** "A BED has a PATIENT (a number of 1 and more), or none (0)." */
    private static void patients() {
        BedsideNet net = Ward.monitor();
        answers("-1", net, "false", n -> n.patient(0, -1));
        answers("0", net, "true", n -> n.patient(0, 0));
        answers("0 again", net, "false", n -> n.patient(0, 0));
        answers("1", net, "true", n -> n.patient(0, 1));
        answers("1 again", net, "false", n -> n.patient(0, 1));
        answers("the greatest", net, "true", n -> n.patient(0, Integer.MAX_VALUE));
        answers("the greatest again", net, "false", n -> n.patient(0, Integer.MAX_VALUE));
        answers("confirmed", net, "true", n -> n.confirm(0));
        CHECK.same("tied to the greatest", net.look(0, 4), Integer.MAX_VALUE);
    }

    /** "a CONTROLLER 0 .. 3" */
    private static void controllers() {
        for (int controller = -1; controller <= 4; controller++) {
            int each = controller;
            boolean isOne = controller >= 0 && controller <= 3;
            BedsideNet net = Ward.pump();
            answers("lease of " + controller, net, isOne ? "true" : "false", n -> n.lease(each, 0));
            CHECK.same("has it", net.look(0, 7), isOne ? controller : BedsideNet.NONE);
            answers("order of " + controller, net, isOne ? "0" : ARGUMENT, n -> n.order(each, 0, 25, 20));
        }
    }

    /** "inhibited for so many ms from now on (0 .. 100000)" */
    private static void inhibitions() {
        answers("-1", Ward.alarmed(2, 0), "false", n -> n.inhibit(0, 0, -1));
        answers("0", Ward.alarmed(2, 0), "true", n -> n.inhibit(0, 0, 0));
        answers("100000", Ward.alarmed(2, 0), "true", n -> n.inhibit(0, 0, 100000));
        answers("100001", Ward.alarmed(2, 0), "false", n -> n.inhibit(0, 0, 100001));
    }

    /** "if they are not 1 .. 10000"; the last time of all is in TickTest. */
    private static void ticks() {
        BedsideNet net = new BedsideNet();
        answers("0", net, ARGUMENT, n -> n.tick(0));
        CHECK.same("time", net.count(0), 0);
        answers("1", net, "0", n -> n.tick(1));
        CHECK.same("time", net.count(0), 1);
        answers("10000", net, "0", n -> n.tick(10000));
        CHECK.same("time", net.count(0), 10001);
        answers("10001", net, ARGUMENT, n -> n.tick(10001));
        CHECK.same("time", net.count(0), 10001);
    }

    /** "IllegalStateException if there are 16" */
    private static void displays() {
        BedsideNet net = Ward.monitor();
        for (int handle = 0; handle < 16; handle++) {
            answers("not yet " + handle, net, "IndexOutOfBoundsException", n -> n.shown(n.count(4), 2));
            answers("handle " + handle, net, "" + handle, n -> n.bind(0, 0));
            answers("there " + handle, net, "0", n -> n.shown(n.count(4) - 1, 2));
        }
        answers("a 17th", net, STATE, n -> n.bind(0, 0));
        answers("no 17th is there", net, "IndexOutOfBoundsException", n -> n.shown(16, 2));
        CHECK.same("handles", net.count(4), 16);
    }

    /** "IllegalStateException if there are 100" */
    private static void orders() {
        BedsideNet net = Ward.pump();
        for (int order = 0; order < 100; order++) {
            CHECK.same("not yet " + order, net.count(100 + order), BedsideNet.NONE);
            answers("order " + order, net, "" + order, n -> n.order(0, 0, 25, 20));
            CHECK.same("waiting " + order, net.count(100 + order), 0);
        }
        answers("a 101st", net, STATE, n -> n.order(0, 0, 25, 20));
        CHECK.same("orders", net.count(5), 100);
        CHECK.same("sent", net.count(1), 100);
    }

    /** "0 at first", "1 at first", "at first it is local": and no more than that in a device that was just sealed. */
    private static void firstState() {
        BedsideNet net = Ward.pump();
        CHECK.same("time", net.count(0), 0);
        int[] due = {2, 0, 1, 1, 0, 0, 20, BedsideNet.NONE, 0, 1, 0, BedsideNet.NONE, 0, BedsideNet.NONE, 0};
        for (int what = 0; what < due.length; what++) {
            CHECK.same("look " + what, net.look(0, what), due[what]);
        }
    }
}
