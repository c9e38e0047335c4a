/** Promises 1 to 6: a new object, and how a device describes itself until it is sealed. */
public final class DescribeTest {
    private static final Check CHECK = new Check();

    public static void main(String[] args) {
        aNewObject();
        device();
        channel();
        channelNumbers();
        alarm();
        setPoint();
        seal();
        CHECK.end();
    }

    private static void aNewObject() {
        BedsideNet net = new BedsideNet();
        for (int what = 0; what <= 6; what++) {
            CHECK.same("count " + what, net.count(what), 0);
        }
        for (int bed = 0; bed < 4; bed++) {
            CHECK.same("patient of " + bed, net.count(300 + bed), 0);
        }
        int[] due = {0, -1, 1, 0, 0, 0, -1, -1, 0, 0};
        for (int device = 0; device < 8; device++) {
            for (int what = 0; what < due.length; what++) {
                CHECK.same("look " + device + " " + what, net.look(device, what), due[what]);
            }
            CHECK.no("move " + device, net.move(device, 0));
        }
    }

    private static void device() {
        BedsideNet net = new BedsideNet();
        CHECK.no("device -1", net.device(-1, 0));
        CHECK.no("device 8", net.device(8, 0));
        CHECK.no("bed -1", net.device(0, -1));
        CHECK.no("bed 4", net.device(0, 4));
        CHECK.same("not begun", net.look(0, 0), 0);
        CHECK.yes("device 7", net.device(7, 3));
        CHECK.same("begun", net.look(7, 0), 1);
        CHECK.same("bed", net.look(7, 1), 3);
        net.channel(7, 1, 0, 9, 1);
        net.alarm(7, 0, 1, 5, 0);
        net.setPoint(7, 1, 2, 1);
        CHECK.yes("device anew", net.device(7, 0));
        CHECK.same("bed anew", net.look(7, 1), 0);
        CHECK.same("no channels", net.look(7, 3), 0);
        CHECK.same("no set-point", net.look(7, 9), 0);
        CHECK.same("no value of it", net.look(7, 6), -1);
        CHECK.same("channel 0 again", net.channel(7, 1, 0, 9, 1), 0);
        CHECK.same("without an alarm", net.look(7, 10), 0);
        net.seal(7);
        CHECK.no("device when sealed", net.device(7, 1));
        CHECK.same("bed stays", net.look(7, 1), 0);
    }

    private static void channel() {
        BedsideNet net = new BedsideNet();
        wrongChannel(net, "not begun", 0, 0, 0, 9, 1);
        net.device(0, 0);
        wrongChannel(net, "device -1", -1, 0, 0, 9, 1);
        wrongChannel(net, "device 8", 8, 0, 0, 9, 1);
        wrongChannel(net, "unit -1", 0, -1, 0, 9, 1);
        wrongChannel(net, "unit 16", 0, 16, 0, 9, 1);
        for (int k = 0; k < 4; k++) {
            CHECK.same("channel", net.channel(0, 15 * (k % 2), 0, 9, 1), k);
        }
        CHECK.throwing("a fifth", IllegalStateException.class, () -> net.channel(0, 0, 0, 9, 1));
        wrongChannel(net, "a fifth that can't be", 0, 0, 0, 9, 0);
        CHECK.same("channels", net.look(0, 3), 4);
        net.seal(0);
        wrongChannel(net, "sealed", 0, 0, 0, 9, 1);
    }

    private static void channelNumbers() {
        BedsideNet net = new BedsideNet();
        net.device(0, 0);
        wrongChannel(net, "low above high", 0, 0, 5, 4, 1);
        wrongChannel(net, "low", 0, 0, -100001, 4, 1);
        wrongChannel(net, "high", 0, 0, 0, 100001, 1);
        wrongChannel(net, "step 0", 0, 0, 0, 9, 0);
        wrongChannel(net, "step -1", 0, 0, 0, 9, -1);
        wrongChannel(net, "step 100001", 0, 0, 0, 9, 100001);
        CHECK.same("still none", net.look(0, 3), 0);
        CHECK.same("widest", net.channel(0, 0, -100000, 100000, 100000), 0);
        CHECK.same("narrowest", net.channel(0, 0, 7, 7, 1), 1);
        CHECK.same("widest by 99999", net.channel(0, 0, -100000, 100000, 99999), 2);
        net.seal(0);
        Ward.tie(net, 0, 0);
        int[] fitting = {-100000, 0, 100000};
        for (int value : fitting) {
            CHECK.yes("fits " + value, net.sample(0, 0, value));
        }
        CHECK.yes("7", net.sample(0, 1, 7));
        CHECK.no("8", net.sample(0, 1, 8));
        CHECK.yes("from low", net.sample(0, 2, -1));
        CHECK.no("not from 0", net.sample(0, 2, 0));
        CHECK.no("far below", net.sample(0, 2, Integer.MIN_VALUE));
        CHECK.no("far above", net.sample(0, 2, Integer.MAX_VALUE));
    }

    private static void wrongChannel(BedsideNet net, String what, int device, int unit, int low, int high, int step) {
        CHECK.throwing("channel, " + what, IllegalArgumentException.class,
                () -> net.channel(device, unit, low, high, step));
    }

    private static void alarm() {
        BedsideNet net = new BedsideNet();
        CHECK.no("not begun", net.alarm(0, 0, 1, 40, 0));
        net.device(0, 0);
        CHECK.no("no channel", net.alarm(0, 0, 1, 40, 0));
        net.channel(0, 0, 0, 100, 1);
        net.channel(0, 0, 0, 100, 1);
        CHECK.no("device -1", net.alarm(-1, 0, 1, 40, 0));
        CHECK.no("device 8", net.alarm(8, 0, 1, 40, 0));
        CHECK.no("channel -1", net.alarm(0, -1, 1, 40, 0));
        CHECK.no("channel 2", net.alarm(0, 2, 1, 40, 0));
        CHECK.no("priority 0", net.alarm(0, 0, 0, 40, 0));
        CHECK.no("priority 4", net.alarm(0, 0, 4, 40, 0));
        CHECK.no("limit below", net.alarm(0, 0, 1, -100001, 0));
        CHECK.no("limit above", net.alarm(0, 0, 1, 100001, 0));
        CHECK.no("delay -1", net.alarm(0, 0, 1, 40, -1));
        CHECK.no("delay 100001", net.alarm(0, 0, 1, 40, 100001));
        CHECK.same("still none", net.look(0, 10), 0);
        CHECK.yes("least", net.alarm(0, 0, 1, -100000, 0));
        CHECK.yes("greatest, in its place", net.alarm(0, 0, 3, 100000, 100000));
        CHECK.yes("of channel 1", net.alarm(0, 1, 1, 100000, 100000));
        CHECK.yes("in its place", net.alarm(0, 1, 2, 40, 0));
        CHECK.same("off", net.look(0, 10), 1);
        net.seal(0);
        CHECK.no("sealed", net.alarm(0, 0, 1, 40, 0));
        Ward.tie(net, 0, 0);
        net.sample(0, 0, 100);
        CHECK.same("the later limit holds", net.look(0, 10), 1);
        net.sample(0, 1, 41);
        CHECK.same("the later one is on", net.look(0, 18), 2);
        net.tick(4000);
        CHECK.same("with the later priority", net.look(0, 19), 1);
    }

    private static void setPoint() {
        BedsideNet net = new BedsideNet();
        CHECK.no("not begun", net.setPoint(0, 0, 9, 1));
        CHECK.same("none", net.look(0, 9), 0);
        net.device(0, 0);
        CHECK.no("device -1", net.setPoint(-1, 0, 9, 1));
        CHECK.no("device 8", net.setPoint(8, 0, 9, 1));
        CHECK.no("low above high", net.setPoint(0, 5, 4, 1));
        CHECK.no("low", net.setPoint(0, -100001, 4, 1));
        CHECK.no("high", net.setPoint(0, 0, 100001, 1));
        CHECK.no("step 0", net.setPoint(0, 0, 9, 0));
        CHECK.no("step 100001", net.setPoint(0, 0, 9, 100001));
        CHECK.same("still none", net.look(0, 9), 0);
        CHECK.yes("widest", net.setPoint(0, -100000, 100000, 100000));
        CHECK.same("value", net.look(0, 6), -100000);
        CHECK.yes("in its place", net.setPoint(0, 3, 9, 2));
        CHECK.same("its value", net.look(0, 6), 3);
        CHECK.same("there", net.look(0, 9), 1);
        net.channel(0, 0, 0, 9, 1);
        net.seal(0);
        CHECK.no("sealed", net.setPoint(0, 0, 9, 1));
        CHECK.no("the earlier range is gone", net.local(0, 4, false));
        CHECK.yes("the later one holds", net.local(0, 5, false));
    }

    private static void seal() {
        BedsideNet net = new BedsideNet();
        CHECK.no("not begun", net.seal(0));
        CHECK.no("device -1", net.seal(-1));
        CHECK.no("device 8", net.seal(8));
        net.device(0, 0);
        CHECK.no("no channel", net.seal(0));
        CHECK.same("not sealed", net.look(0, 0), 1);
        net.channel(0, 0, 0, 9, 1);
        CHECK.yes("seal", net.seal(0));
        CHECK.same("sealed", net.look(0, 0), 2);
        CHECK.no("again", net.seal(0));
    }
}
