/** The document's face, so that the same call can be made on the class and on the model. */
interface Face {
    boolean device(int device, int bed);

    int channel(int device, int unit, int low, int high, int step);

    boolean alarm(int device, int channel, int priority, int limit, int delay);

    boolean setPoint(int device, int low, int high, int step);

    boolean seal(int device);

    boolean move(int device, int bed);

    boolean patient(int bed, int number);

    boolean confirm(int device);

    boolean sample(int device, int channel, int value);

    int tick(int ms);

    boolean carry(int message, boolean kept);

    boolean drop(int message);

    int bind(int bed, int unit);

    int shown(int handle, int what);

    boolean acknowledge(int device, int channel);

    boolean inhibit(int device, int channel, int ms);

    boolean lease(int controller, int device);

    int order(int controller, int device, int value, int expected);

    boolean local(int device, int value, boolean remote);

    boolean restart(int device);

    int look(int device, int what);

    int message(int number, int what);

    int count(int what);

    /** The class itself behind this face. */
    static Face of(BedsideNet net) {
        return new Face() {
            public boolean device(int device, int bed) {
                return net.device(device, bed);
            }

            public int channel(int device, int unit, int low, int high, int step) {
                return net.channel(device, unit, low, high, step);
            }

            public boolean alarm(int device, int channel, int priority, int limit, int delay) {
                return net.alarm(device, channel, priority, limit, delay);
            }

            public boolean setPoint(int device, int low, int high, int step) {
                return net.setPoint(device, low, high, step);
            }

            public boolean seal(int device) {
                return net.seal(device);
            }

            public boolean move(int device, int bed) {
                return net.move(device, bed);
            }

            public boolean patient(int bed, int number) {
                return net.patient(bed, number);
            }

            public boolean confirm(int device) {
                return net.confirm(device);
            }

            public boolean sample(int device, int channel, int value) {
                return net.sample(device, channel, value);
            }

            public int tick(int ms) {
                return net.tick(ms);
            }

            public boolean carry(int message, boolean kept) {
                return net.carry(message, kept);
            }

            public boolean drop(int message) {
                return net.drop(message);
            }

            public int bind(int bed, int unit) {
                return net.bind(bed, unit);
            }

            public int shown(int handle, int what) {
                return net.shown(handle, what);
            }

            public boolean acknowledge(int device, int channel) {
                return net.acknowledge(device, channel);
            }

            public boolean inhibit(int device, int channel, int ms) {
                return net.inhibit(device, channel, ms);
            }

            public boolean lease(int controller, int device) {
                return net.lease(controller, device);
            }

            public int order(int controller, int device, int value, int expected) {
                return net.order(controller, device, value, expected);
            }

            public boolean local(int device, int value, boolean remote) {
                return net.local(device, value, remote);
            }

            public boolean restart(int device) {
                return net.restart(device);
            }

            public int look(int device, int what) {
                return net.look(device, what);
            }

            public int message(int number, int what) {
                return net.message(number, what);
            }

            public int count(int what) {
                return net.count(what);
            }
        };
    }
}
