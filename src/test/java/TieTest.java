/** Promises 7 to 10: moving, patients, confirmations, measurements. */
public final class TieTest {
    private static final Check CHECK = new Check();

    public static void main(String[] args) {
        move();
        patient();
        confirm();
        sample();
        sampleRefused();
        CHECK.end();
    }

    private static void move() {
        BedsideNet net = new BedsideNet();
        net.device(0, 0);
        net.channel(0, 0, 0, 9, 1);
        CHECK.no("not sealed", net.move(0, 1));
        net.seal(0);
        CHECK.no("device -1", net.move(-1, 1));
        CHECK.no("device 8", net.move(8, 1));
        CHECK.no("not begun", net.move(1, 1));
        net.patient(0, 5);
        net.patient(3, 5);
        net.confirm(0);
        CHECK.no("bed -1", net.move(0, -1));
        CHECK.no("bed 4", net.move(0, 4));
        CHECK.same("still tied", net.look(0, 4), 5);
        CHECK.yes("bed 3", net.move(0, 3));
        CHECK.same("bed", net.look(0, 1), 3);
        CHECK.same("tied no more, though the patient has the same number", net.look(0, 4), 0);
        CHECK.yes("confirm there", net.confirm(0));
        CHECK.yes("its own", net.move(0, 3));
        CHECK.same("tied no more", net.look(0, 4), 0);
    }

    private static void patient() {
        BedsideNet net = Ward.monitor();
        CHECK.no("bed -1", net.patient(-1, 1));
        CHECK.no("bed 4", net.patient(4, 1));
        CHECK.no("number -1", net.patient(0, -1));
        CHECK.no("that one", net.patient(0, 5));
        CHECK.no("none again", net.patient(1, 0));
        CHECK.same("still tied", net.look(0, 4), 5);
        CHECK.yes("of another bed", net.patient(1, Integer.MAX_VALUE));
        CHECK.same("it is there", net.count(301), Integer.MAX_VALUE);
        CHECK.same("still tied", net.look(0, 4), 5);
        CHECK.yes("another one", net.patient(0, 6));
        CHECK.same("tied no more", net.look(0, 4), 0);
        net.confirm(0);
        CHECK.same("tied to that", net.look(0, 4), 6);
        CHECK.yes("none", net.patient(0, 0));
        CHECK.same("tied no more", net.look(0, 4), 0);
        CHECK.same("none there", net.count(300), 0);
        net.patient(0, 6);
        CHECK.same("not tied by itself", net.look(0, 4), 0);
    }

    private static void confirm() {
        BedsideNet net = new BedsideNet();
        net.patient(0, 5);
        CHECK.no("not begun", net.confirm(0));
        net.device(0, 0);
        net.channel(0, 0, 0, 9, 1);
        CHECK.no("not sealed", net.confirm(0));
        net.seal(0);
        CHECK.no("device -1", net.confirm(-1));
        CHECK.no("device 8", net.confirm(8));
        net.patient(0, 0);
        CHECK.no("no patient", net.confirm(0));
        net.patient(0, 5);
        CHECK.yes("confirm", net.confirm(0));
        CHECK.same("tied", net.look(0, 4), 5);
        CHECK.no("again", net.confirm(0));
    }

    private static void sample() {
        BedsideNet net = Ward.monitor();
        CHECK.same("no value", net.look(0, 12), 0);
        CHECK.same("none", net.look(0, 13), -1);
        CHECK.yes("sample", net.sample(0, 0, 100));
        CHECK.same("a value", net.look(0, 12), 1);
        CHECK.same("that", net.look(0, 13), 100);
        CHECK.same("sent", net.count(1), 1);
        int[] due = {1, 0, 0, 1, 100};
        for (int what = 0; what < due.length; what++) {
            CHECK.same("message " + what, net.message(0, what), due[what]);
        }
        CHECK.yes("low", net.sample(0, 0, 0));
        CHECK.same("low is there", net.look(0, 13), 0);
        CHECK.same("sent each time", net.count(1), 2);
        net.patient(0, 0);
        CHECK.same("the value stays when the tie ends", net.look(0, 13), 0);
    }

    private static void sampleRefused() {
        BedsideNet net = Ward.monitor();
        CHECK.no("device -1", net.sample(-1, 0, 1));
        CHECK.no("device 8", net.sample(8, 0, 1));
        CHECK.no("device not begun", net.sample(1, 0, 1));
        CHECK.no("channel -1", net.sample(0, -1, 1));
        CHECK.no("channel 1", net.sample(0, 1, 1));
        CHECK.no("channel 4", net.sample(0, 4, 1));
        CHECK.no("below", net.sample(0, 0, -1));
        CHECK.no("above", net.sample(0, 0, 101));
        net.patient(0, 0);
        CHECK.no("not tied", net.sample(0, 0, 1));
        CHECK.same("nothing sent", net.count(1), 0);
        CHECK.same("no value", net.look(0, 12), 0);
    }
}
