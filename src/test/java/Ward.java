/** Objects as the tests begin with. */
final class Ward {
    static final int PATIENT = 5;

    private Ward() {
    }

    /** Device 0 at bed 0, tied, one channel of unit 0 with 0 .. 100 by 1, without an alarm. */
    static BedsideNet monitor() {
        BedsideNet net = new BedsideNet();
        net.device(0, 0);
        net.channel(0, 0, 0, 100, 1);
        net.seal(0);
        tie(net, 0, 0);
        return net;
    }

    /** As monitor, with an alarm above 40. */
    static BedsideNet alarmed(int priority, int delay) {
        BedsideNet net = new BedsideNet();
        alarmed(net, 0, 0, priority, delay);
        return net;
    }

    static void alarmed(BedsideNet net, int device, int bed, int priority, int delay) {
        net.device(device, bed);
        net.channel(device, 0, 0, 100, 1);
        net.alarm(device, 0, priority, 40, delay);
        net.seal(device);
        tie(net, device, bed);
    }

    /** Device 0 at bed 0, sealed, with a set-point 20 .. 60 by 5. */
    static BedsideNet pump() {
        BedsideNet net = new BedsideNet();
        net.device(0, 0);
        net.channel(0, 0, 0, 100, 1);
        net.setPoint(0, 20, 60, 5);
        net.seal(0);
        return net;
    }

    static void tie(BedsideNet net, int device, int bed) {
        net.patient(bed, PATIENT);
        net.confirm(device);
    }

    static int newest(BedsideNet net) {
        return net.count(1) - 1;
    }

    static void carryNewest(BedsideNet net) {
        net.carry(newest(net), false);
    }

    static void dropAll(BedsideNet net) {
        for (int i = net.count(2); i > 0; i--) {
            net.drop(net.count(200));
        }
    }
}
