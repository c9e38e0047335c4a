/** Objects as the tests begin with. */
final class Ward {
    static final int PATIENT = 5;

    private Ward() {
    }

    /** Device 0 at bed 0, tied, one channel of unit 0 with 0 .. 100 by 1, without an alarm. */
    static BedsideNet monitor() {
        BedsideNet net = new BedsideNet();
        net.device(0, 0);
        net.channel(0, 0, 0, 100, 1);
        net.seal(0);
        tie(net, 0, 0);
        return net;
    }

    /** As monitor, with an alarm above 40. */
    static BedsideNet alarmed(int priority, int delay) {
        BedsideNet net = new BedsideNet();
        alarmed(net, 0, 0, priority, delay);
        return net;
    }

    static void alarmed(BedsideNet net, int device, int bed, int priority, int delay) {
        net.device(device, bed);
        net.channel(device, 0, 0, 100, 1);
        net.alarm(device, 0, priority, 40, delay);
        net.seal(device);
        tie(net, device, bed);
    }

    /** Device 0 at bed 0, sealed, with a set-point 20 .. 60 by 5. */
    static BedsideNet pump() {
        BedsideNet net = new BedsideNet();
        net.device(0, 0);
        net.channel(0, 0, 0, 100, 1);
        net.setPoint(0, 20, 60, 5);
        net.seal(0);
        return net;
    }

    static Script pumpScript() {
        return new Script().then(net -> net.device(0, 0)).then(net -> net.channel(0, 0, 0, 100, 1))
                .then(net -> net.setPoint(0, 20, 60, 5)).then(net -> net.seal(0));
    }

    /** As monitor, with 64 messages pending: VALUEs of 0 to 63. */
    static Script full() {
        Script script = new Script().then(net -> net.device(0, 0)).then(net -> net.channel(0, 0, 0, 100, 1))
                .then(net -> net.seal(0)).then(net -> net.patient(0, PATIENT)).then(net -> net.confirm(0));
        for (int i = 0; i < 64; i++) {
            int value = i;
            script.then(net -> net.sample(0, 0, value));
        }
        return script;
    }

    /** Devices in every state, messages of every kind but one, and spans of time that have begun. */
    static Script busy() {
        Script script = new Script();
        describeAll(script);
        script.then(net -> net.patient(0, PATIENT)).then(net -> net.patient(1, 6)).then(net -> net.patient(2, 9));
        script.then(net -> net.confirm(0)).then(net -> net.confirm(1));
        script.then(net -> net.bind(0, 0)).then(net -> net.bind(1, 0));
        // Messages 0 VALUE (shown), 1 ALARM (kept), 2 SOUNDS.
        script.then(net -> net.sample(0, 0, 50)).then(net -> net.carry(0, false)).then(net -> net.carry(1, true));
        script.then(net -> net.tick(300));
        // 3 VALUE; its alarm waits for its delay.
        script.then(net -> net.sample(0, 1, 45));
        // 4 VALUE (dropped), 5 ALARM (carried), 6 SOUNDS, 7 HEARD.
        script.then(net -> net.sample(1, 0, 10)).then(net -> net.drop(4)).then(net -> net.carry(5, false));
        script.then(net -> net.acknowledge(1, 0));
        script.then(net -> net.lease(1, 0)).then(net -> net.local(0, BedsideNet.NONE, true));
        script.then(net -> net.lease(2, 7));
        // 8 ORDER, 9 ORDER (carried), 10 ANSWER.
        script.then(net -> net.order(1, 0, 30, 20)).then(net -> net.order(2, 7, 30, 20));
        script.then(net -> net.carry(9, false));
        return script.then(net -> net.tick(200));
    }

    /** Sealed 0, 1, 5, 7 (1 without a set-point); begun 2, 3 (four channels), 4 (none); not begun 6. */
    private static void describeAll(Script script) {
        int[][] at = {{0, 0}, {1, 1}, {2, 0}, {3, 2}, {4, 3}, {5, 2}, {7, 3}};
        for (int[] one : at) {
            script.then(net -> net.device(one[0], one[1]));
        }
        int[][] channels = {
            {0, 0, 0, 100, 1}, {0, 1, 0, 100, 5}, {1, 0, -50, 55, 15}, {1, 2, 0, 100, 1}, {2, 2, 0, 100, 1},
            {3, 0, 0, 9, 1}, {3, 1, 0, 9, 1}, {3, 2, 0, 9, 1}, {3, 3, 0, 9, 1}, {5, 0, 0, 100, 1}, {7, 0, 0, 100, 1},
        };
        for (int[] one : channels) {
            script.then(net -> net.channel(one[0], one[1], one[2], one[3], one[4]));
        }
        int[][] alarms = {{0, 0, 1, 40, 0}, {0, 1, 2, 40, 1000}, {1, 0, 2, 0, 0}, {2, 0, 2, 40, 500}};
        for (int[] one : alarms) {
            script.then(net -> net.alarm(one[0], one[1], one[2], one[3], one[4]));
        }
        for (int device : new int[] {0, 2, 5, 7}) {
            script.then(net -> net.setPoint(device, 20, 60, 5));
        }
        for (int device : new int[] {0, 1, 5, 7}) {
            script.then(net -> net.seal(device));
        }
    }

    static void tie(BedsideNet net, int device, int bed) {
        net.patient(bed, PATIENT);
        net.confirm(device);
    }

    static int newest(BedsideNet net) {
        return net.count(1) - 1;
    }

    static void carryNewest(BedsideNet net) {
        net.carry(newest(net), false);
    }

    static void dropAll(BedsideNet net) {
        for (int i = net.count(2); i > 0; i--) {
            net.drop(net.count(200));
        }
    }
}
