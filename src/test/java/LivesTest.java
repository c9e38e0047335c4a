import java.util.NoSuchElementException;

/**
 * "Each has the device's life as it was when it was sent; one that comes to a device (3, 4, 5), or of one (1, 2), whose
 * life is another by then does nothing, but for an ORDER (which is answered)." And what a restart ends and leaves.
 */
public final class LivesTest {
    private static final Check CHECK = new Check();
    private static final int NONE = BedsideNet.NONE;

    public static void main(String[] args) {
        value();
        valueForADisplayOfThisLife();
        alarm();
        sounds();
        soundsOfThisLife();
        heard();
        heardOfThisLife();
        order();
        orderJudgedEarlier();
        answer();
        anotherDeviceRestarts();
        lifeIsOneMore();
        whatIsGone();
        inhibitionIsGone();
        delayIsGone();
        latchedAlarmIsGone();
        whatStays();
        CHECK.end();
    }

    /** Device 0, tied, channel 0 with an alarm above 40, set-point 20 .. 60 by 5. */
    private static BedsideNet ward(int priority, int delay) {
        BedsideNet net = new BedsideNet();
        net.device(0, 0);
        net.channel(0, 0, 0, 100, 1);
        net.alarm(0, 0, priority, 40, delay);
        net.setPoint(0, 20, 60, 5);
        net.seal(0);
        Ward.tie(net, 0, 0);
        return net;
    }

    private static void restartAndTie(BedsideNet net) {
        net.restart(0);
        net.confirm(0);
    }

    private static void value() {
        BedsideNet net = ward(2, 0);
        net.bind(0, 0);
        net.sample(0, 0, 7);
        net.carry(0, true);
        CHECK.same("in its life", net.shown(0, 0), 7);
        net.sample(0, 0, 8);
        restartAndTie(net);
        CHECK.yes("it is carried", net.carry(1, true));
        CHECK.same("and does nothing", net.shown(0, 0), 7);
        CHECK.same("it has the life in which it was sent", net.message(1, 3), 1);
        net.sample(0, 0, 9);
        CHECK.same("the next one has the new life", net.message(2, 3), 2);
        net.carry(2, false);
        CHECK.same("which the handle is not bound to", net.shown(0, 0), 7);
    }

    private static void valueForADisplayOfThisLife() {
        BedsideNet net = ward(2, 0);
        net.sample(0, 0, 8);
        restartAndTie(net);
        net.bind(0, 0);
        net.carry(0, false);
        CHECK.throwing("nothing", NoSuchElementException.class, () -> net.shown(0, 0));
        net.sample(0, 0, 9);
        Ward.carryNewest(net);
        CHECK.same("one of this life", net.shown(0, 0), 9);
    }

    private static void alarm() {
        BedsideNet net = ward(2, 0);
        net.sample(0, 0, 50);
        restartAndTie(net);
        int sent = net.count(1);
        CHECK.yes("it is carried", net.carry(1, true));
        CHECK.same("the station knows none", net.look(0, 14), 0);
        CHECK.same("and sends nothing", net.count(1), sent);
        net.sample(0, 0, 50);
        Ward.carryNewest(net);
        CHECK.same("one of this life", net.look(0, 14), 2);
        net.sample(0, 0, 0);
        int off = Ward.newest(net);
        net.restart(0);
        net.carry(off, false);
        CHECK.same("off of an earlier life", net.look(0, 14), 2);
    }

    private static void sounds() {
        BedsideNet net = ward(2, 0);
        net.sample(0, 0, 50);
        net.carry(1, false);
        restartAndTie(net);
        net.sample(0, 0, 50);
        CHECK.yes("it is carried", net.carry(2, true));
        CHECK.same("the device sounds all the same", net.look(0, 5), 1);
    }

    /** The station does not know of the restart, so it goes on; what it sends now has the new life. */
    private static void soundsOfThisLife() {
        BedsideNet net = ward(2, 0);
        net.sample(0, 0, 50);
        net.carry(1, false);
        restartAndTie(net);
        CHECK.same("the station sounds", net.count(6), 1);
        CHECK.same("SOUNDS", net.tick(1000), 1);
        CHECK.same("of the new life", net.message(Ward.newest(net), 3), 2);
        int sounds = Ward.newest(net);
        net.sample(0, 0, 50);
        net.carry(sounds, false);
        CHECK.same("silent", net.look(0, 5), 0);
    }

    private static void heard() {
        BedsideNet net = ward(2, 0);
        net.sample(0, 0, 50);
        net.carry(1, false);
        net.acknowledge(0, 0);
        int heard = Ward.newest(net);
        restartAndTie(net);
        net.sample(0, 0, 50);
        CHECK.yes("it is carried", net.carry(heard, true));
        CHECK.same("not acknowledged", net.look(0, 10), 2);
    }

    private static void heardOfThisLife() {
        BedsideNet net = ward(2, 0);
        net.sample(0, 0, 50);
        net.carry(1, false);
        restartAndTie(net);
        CHECK.yes("what the station knew can be acknowledged", net.acknowledge(0, 0));
        int heard = Ward.newest(net);
        CHECK.same("of the new life", net.message(heard, 3), 2);
        net.carry(heard, true);
        CHECK.same("no alarm is ON", net.look(0, 10), 1);
        net.sample(0, 0, 50);
        net.carry(heard, true);
        CHECK.same("one is ON", net.look(0, 10), 3);
    }

    private static void order() {
        BedsideNet net = ward(2, 0);
        net.order(1, 0, 25, 20);
        net.restart(0);
        net.lease(1, 0);
        net.local(0, NONE, true);
        net.carry(0, true);
        CHECK.same("ANSWER", net.message(1, 0), 6);
        CHECK.same("another life", net.message(1, 4), 1);
        CHECK.same("of the new life", net.message(1, 3), 2);
        CHECK.same("not done", net.look(0, 6), 20);
        net.carry(1, false);
        CHECK.same("known", net.count(100), 2);
    }

    /** "It is judged once, when it first comes" */
    private static void orderJudgedEarlier() {
        BedsideNet net = ward(2, 0);
        net.lease(1, 0);
        net.local(0, NONE, true);
        net.order(1, 0, 25, 20);
        net.carry(0, true);
        net.restart(0);
        net.carry(0, true);
        CHECK.same("done stays done", net.message(2, 4), 0);
        CHECK.same("the value stays", net.look(0, 6), 25);
    }

    private static void answer() {
        BedsideNet net = ward(2, 0);
        net.order(1, 0, 25, 20);
        net.carry(0, false);
        net.restart(0);
        net.carry(1, false);
        CHECK.same("known in every life", net.count(100), 3);
    }

    private static void anotherDeviceRestarts() {
        BedsideNet net = ward(2, 0);
        Ward.alarmed(net, 1, 0, 2, 0);
        net.sample(0, 0, 50);
        net.restart(1);
        CHECK.same("life of the one", net.look(0, 2), 1);
        CHECK.same("still tied", net.look(0, 4), Ward.PATIENT);
        CHECK.same("still ON", net.look(0, 10), 2);
        net.carry(1, false);
        CHECK.same("its messages come", net.look(0, 14), 2);
    }

    private static void lifeIsOneMore() {
        BedsideNet net = ward(2, 0);
        for (int life = 1; life <= 20; life++) {
            CHECK.same("life", net.look(0, 2), life);
            CHECK.yes("restart", net.restart(0));
        }
    }

    /** "values, alarms (without a message), acknowledgements, ... when SOUNDS came, the lease, the tie are gone" */
    private static void whatIsGone() {
        BedsideNet net = ward(2, 0);
        net.lease(1, 0);
        net.local(0, NONE, true);
        net.sample(0, 0, 50);
        net.carry(1, false);
        net.carry(2, false);
        net.acknowledge(0, 0);
        Ward.carryNewest(net);
        int sent = net.count(1);
        net.restart(0);
        CHECK.same("no message", net.count(1), sent);
        int[][] due = {{4, 0}, {5, 0}, {7, NONE}, {8, 0}, {10, 1}, {11, NONE}, {12, 0}, {13, NONE}};
        for (int[] one : due) {
            CHECK.same("look " + one[0], net.look(0, one[0]), one[1]);
        }
        CHECK.yes("another one takes the lease", net.lease(2, 0));
        CHECK.same("no VALUE is sent anew", net.tick(1000), 0);
        CHECK.yes("confirm", net.confirm(0));
        CHECK.same("nor when it is tied", net.tick(1000), 0);
        net.sample(0, 0, 50);
        CHECK.same("no acknowledgement is left", net.look(0, 10), 2);
        CHECK.same("and no SOUNDS", net.look(0, 5), 1);
    }

    private static void inhibitionIsGone() {
        BedsideNet net = ward(2, 500);
        net.inhibit(0, 0, 100000);
        net.tick(100);
        restartAndTie(net);
        net.sample(0, 0, 50);
        net.tick(499);
        CHECK.same("499", net.look(0, 10), 1);
        net.tick(1);
        CHECK.same("500", net.look(0, 10), 2);
    }

    private static void delayIsGone() {
        BedsideNet net = ward(2, 500);
        net.sample(0, 0, 50);
        net.tick(499);
        restartAndTie(net);
        CHECK.same("nothing at its end", net.tick(1), 0);
        CHECK.same("off", net.look(0, 10), 1);
        net.sample(0, 0, 50);
        net.tick(499);
        CHECK.same("499 from the new value", net.look(0, 10), 1);
        net.tick(1);
        CHECK.same("500 from the new value", net.look(0, 10), 2);
    }

    private static void latchedAlarmIsGone() {
        BedsideNet net = ward(1, 0);
        net.sample(0, 0, 50);
        net.sample(0, 0, 0);
        CHECK.same("priority 1 stays ON", net.look(0, 10), 2);
        int sent = net.count(1);
        net.restart(0);
        CHECK.same("but not over a restart", net.look(0, 10), 1);
        net.tick(5000);
        CHECK.same("of which nothing is told", net.count(1), sent);
    }

    /** "description and the set-point's value stay" */
    private static void whatStays() {
        BedsideNet net = ward(1, 0);
        net.local(0, 35, false);
        net.restart(0);
        int[][] due = {{0, 2}, {1, 0}, {3, 1}, {6, 35}, {9, 1}, {10, 1}};
        for (int[] one : due) {
            CHECK.same("look " + one[0], net.look(0, one[0]), one[1]);
        }
        CHECK.no("still sealed", net.seal(0));
        net.confirm(0);
        CHECK.no("the range stays, above", net.sample(0, 0, 101));
        CHECK.no("the range stays, below", net.sample(0, 0, -1));
        net.sample(0, 0, 40);
        CHECK.same("the limit stays, 40", net.look(0, 10), 1);
        net.sample(0, 0, 41);
        CHECK.same("the limit stays, 41", net.look(0, 10), 2);
        net.sample(0, 0, 0);
        CHECK.same("the priority stays", net.look(0, 10), 2);
        CHECK.no("the set-point's step stays", net.local(0, 36, false));
        CHECK.yes("the set-point's high stays", net.local(0, 60, false));
    }
}
