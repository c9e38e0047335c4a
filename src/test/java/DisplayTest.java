import java.util.NoSuchElementException;

/** Promises 14 and 15: displays and what they show. */
public final class DisplayTest {
    private static final Check CHECK = new Check();

    public static void main(String[] args) {
        bindsTheLeast();
        bindRefused();
        shown();
        latestByNumber();
        ageAndSilence();
        boundToChannelLifeAndPatient();
        severalHandles();
        CHECK.end();
    }

    private static void bindsTheLeast() {
        BedsideNet net = new BedsideNet();
        int[][] units = {{1, 1}, {3, 2}, {2, 2}, {2, 4}};
        for (int device = 0; device < 4; device++) {
            net.device(device, device == 3 ? 1 : 0);
            net.channel(device, units[device][0], 0, 9, 1);
            net.channel(device, units[device][1], 0, 9, 1);
            net.channel(device, 15, 0, 9, 1);
            net.channel(device, 15, 0, 9, 1);
            net.seal(device);
        }
        net.device(4, 0);
        net.channel(4, 9, 0, 9, 1);
        net.patient(0, 5);
        net.patient(1, 5);
        CHECK.throwing("none is tied", IllegalStateException.class, () -> net.bind(0, 2));
        net.confirm(2);
        CHECK.same("the one that is tied", net.bind(0, 2), 0);
        boundTo(net, 0, 2, 0);
        net.confirm(0);
        net.confirm(1);
        net.confirm(3);
        CHECK.same("the least that has the unit", net.bind(0, 2), 1);
        boundTo(net, 1, 1, 1);
        CHECK.same("the least channel", net.bind(0, 1), 2);
        boundTo(net, 2, 0, 0);
        CHECK.same("of that bed", net.bind(1, 2), 3);
        boundTo(net, 3, 3, 0);
        CHECK.throwing("of no device there", IllegalStateException.class, () -> net.bind(0, 4));
        CHECK.throwing("of one that is not sealed", IllegalStateException.class, () -> net.bind(0, 9));
        CHECK.same("handles", net.count(4), 4);
    }

    private static void boundTo(BedsideNet net, int handle, int device, int channel) {
        CHECK.same("device of " + handle, net.shown(handle, 2), device);
        CHECK.same("channel of " + handle, net.shown(handle, 3), channel);
    }

    private static void bindRefused() {
        BedsideNet net = Ward.monitor();
        int[][] wrong = {{-1, 0}, {4, 0}, {0, -1}, {0, 16}};
        for (int[] pair : wrong) {
            CHECK.throwing("bind", IllegalArgumentException.class, () -> net.bind(pair[0], pair[1]));
        }
        CHECK.throwing("unit 15", IllegalStateException.class, () -> net.bind(0, 15));
        CHECK.throwing("bed 3", IllegalStateException.class, () -> net.bind(3, 0));
        for (int handle = 0; handle < 16; handle++) {
            CHECK.same("handle", net.bind(0, 0), handle);
        }
        CHECK.throwing("a 17th", IllegalStateException.class, () -> net.bind(0, 0));
        CHECK.throwing("told first", IllegalArgumentException.class, () -> net.bind(4, 0));
        CHECK.same("handles", net.count(4), 16);
        net.sample(0, 0, 9);
        Ward.carryNewest(net);
        CHECK.same("the last one hears too", net.shown(15, 0), 9);
    }

    private static void shown() {
        BedsideNet net = Ward.monitor();
        CHECK.throwing("no handle", IndexOutOfBoundsException.class, () -> net.shown(0, 0));
        net.bind(0, 0);
        CHECK.throwing("handle -1", IndexOutOfBoundsException.class, () -> net.shown(-1, 0));
        CHECK.throwing("handle 1", IndexOutOfBoundsException.class, () -> net.shown(1, 0));
        CHECK.throwing("what -1", IndexOutOfBoundsException.class, () -> net.shown(0, -1));
        CHECK.throwing("what 4", IndexOutOfBoundsException.class, () -> net.shown(0, 4));
        CHECK.throwing("no value", NoSuchElementException.class, () -> net.shown(0, 0));
        CHECK.throwing("no age", NoSuchElementException.class, () -> net.shown(0, 1));
        CHECK.same("device", net.shown(0, 2), 0);
        CHECK.same("channel", net.shown(0, 3), 0);
    }

    private static void latestByNumber() {
        BedsideNet net = Ward.monitor();
        net.sample(0, 0, 10);
        net.bind(0, 0);
        net.sample(0, 0, 20);
        net.sample(0, 0, 30);
        net.carry(0, false);
        CHECK.same("one that was sent before the handle was bound", net.shown(0, 0), 10);
        net.carry(2, true);
        CHECK.same("the third", net.shown(0, 0), 30);
        net.tick(500);
        net.carry(1, false);
        CHECK.same("not the second behind it", net.shown(0, 0), 30);
        net.carry(2, true);
        net.tick(2499);
        CHECK.same("2999", net.shown(0, 1), 2999);
        net.tick(1);
        CHECK.throwing("neither made it heard anew", NoSuchElementException.class, () -> net.shown(0, 0));
        CHECK.same("the handle stays", net.shown(0, 2), 0);
    }

    private static void ageAndSilence() {
        BedsideNet net = Ward.monitor();
        net.bind(0, 0);
        net.tick(1234);
        net.sample(0, 0, 10);
        net.tick(900);
        net.carry(0, false);
        CHECK.same("age since it was measured", net.shown(0, 1), 900);
        net.tick(2999);
        CHECK.same("shown since it was heard", net.shown(0, 1), 3899);
        net.tick(1);
        CHECK.throwing("3000", NoSuchElementException.class, () -> net.shown(0, 1));
        Ward.carryNewest(net);
        CHECK.same("heard anew", net.shown(0, 1), 3900);
        CHECK.same("value", net.shown(0, 0), 10);
    }

    private static void boundToChannelLifeAndPatient() {
        BedsideNet net = new BedsideNet();
        net.device(0, 0);
        net.channel(0, 0, 0, 100, 1);
        net.channel(0, 1, 0, 100, 1);
        net.seal(0);
        Ward.tie(net, 0, 0);
        net.bind(0, 0);
        net.sample(0, 1, 1);
        Ward.carryNewest(net);
        CHECK.throwing("another channel", NoSuchElementException.class, () -> net.shown(0, 0));
        net.sample(0, 0, 2);
        int late = Ward.newest(net);
        net.patient(0, 6);
        net.confirm(0);
        net.sample(0, 0, 3);
        Ward.carryNewest(net);
        CHECK.throwing("another patient", NoSuchElementException.class, () -> net.shown(0, 0));
        net.carry(late, true);
        CHECK.same("of its patient, late", net.shown(0, 0), 2);
        net.patient(0, 5);
        net.confirm(0);
        net.sample(0, 0, 4);
        Ward.carryNewest(net);
        CHECK.same("of its patient again", net.shown(0, 0), 4);
        net.sample(0, 0, 5);
        late = Ward.newest(net);
        net.restart(0);
        net.carry(late, false);
        CHECK.same("one of an earlier life does nothing", net.shown(0, 0), 4);
        net.confirm(0);
        net.sample(0, 0, 6);
        Ward.carryNewest(net);
        CHECK.same("one of a later life is not of these", net.shown(0, 0), 4);
        CHECK.same("bound in this life", net.bind(0, 0), 1);
        net.sample(0, 0, 7);
        Ward.carryNewest(net);
        CHECK.same("shows it", net.shown(1, 0), 7);
        CHECK.same("the other does not", net.shown(0, 0), 4);
    }

    private static void severalHandles() {
        BedsideNet net = Ward.monitor();
        net.device(1, 0);
        net.channel(1, 1, 0, 100, 1);
        net.seal(1);
        net.confirm(1);
        net.bind(0, 1);
        net.bind(0, 0);
        net.sample(0, 0, 1);
        net.sample(1, 0, 2);
        net.carry(0, false);
        CHECK.throwing("another device", NoSuchElementException.class, () -> net.shown(0, 0));
        net.carry(1, false);
        CHECK.same("device 1", net.shown(0, 0), 2);
        CHECK.same("device 0", net.shown(1, 0), 1);
    }
}
