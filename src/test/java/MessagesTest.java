import java.util.NoSuchElementException;

/** Promises 12, 13 and 23: carrying, dropping and reading messages. */
public final class MessagesTest {
    private static final Check CHECK = new Check();

    public static void main(String[] args) {
        carry();
        carryMakesRoomFirst();
        drop();
        message();
        everyKind();
        CHECK.end();
    }

    private static void carry() {
        BedsideNet net = Ward.monitor();
        net.bind(0, 0);
        CHECK.no("none sent", net.carry(0, false));
        CHECK.no("-1", net.carry(-1, false));
        net.sample(0, 0, 1);
        net.sample(0, 0, 2);
        CHECK.yes("kept", net.carry(0, true));
        CHECK.same("delivered", net.shown(0, 0), 1);
        CHECK.same("pending", net.count(2), 2);
        CHECK.yes("again", net.carry(0, false));
        CHECK.same("pending", net.count(2), 1);
        CHECK.no("no more", net.carry(0, true));
        CHECK.yes("the other", net.carry(1, false));
        CHECK.same("delivered", net.shown(0, 0), 2);
        CHECK.no("no more", net.carry(1, false));
    }

    private static void carryMakesRoomFirst() {
        BedsideNet net = Ward.pump();
        Ward.tie(net, 0, 0);
        net.order(0, 0, 25, 20);
        for (int i = 0; i < 63; i++) {
            net.sample(0, 0, i);
        }
        CHECK.yes("kept", net.carry(0, true));
        CHECK.same("its answer is lost", net.count(3), 1);
        CHECK.yes("not kept", net.carry(0, false));
        CHECK.same("its answer has room", net.count(3), 1);
        CHECK.same("the answer", net.message(65, 0), 6);
        CHECK.same("of the order", net.message(65, 2), 0);
        CHECK.same("pending", net.count(2), 64);
    }

    private static void drop() {
        BedsideNet net = Ward.monitor();
        net.bind(0, 0);
        CHECK.no("none sent", net.drop(0));
        CHECK.no("-1", net.drop(-1));
        for (int i = 0; i < 4; i++) {
            net.sample(0, 0, i);
        }
        CHECK.yes("drop", net.drop(1));
        CHECK.no("again", net.drop(1));
        CHECK.no("gone", net.carry(1, false));
        int[] left = {0, 2, 3};
        for (int i = 0; i < left.length; i++) {
            CHECK.same("pending by numbers", net.count(200 + i), left[i]);
            CHECK.same("with its value", net.message(left[i], 4), left[i]);
        }
        CHECK.same("no more", net.count(203), -1);
        CHECK.same("not lost for want of room", net.count(3), 0);
        CHECK.throwing("nothing delivered", NoSuchElementException.class, () -> net.shown(0, 0));
    }

    private static void message() {
        BedsideNet net = Ward.monitor();
        CHECK.throwing("none", NoSuchElementException.class, () -> net.message(0, 0));
        CHECK.throwing("told first", NoSuchElementException.class, () -> net.message(0, 9));
        net.sample(0, 0, 1);
        CHECK.throwing("-1", NoSuchElementException.class, () -> net.message(-1, 0));
        CHECK.throwing("what -1", IndexOutOfBoundsException.class, () -> net.message(0, -1));
        CHECK.throwing("what 5", IndexOutOfBoundsException.class, () -> net.message(0, 5));
        net.carry(0, false);
        CHECK.throwing("carried", NoSuchElementException.class, () -> net.message(0, 0));
    }

    private static void everyKind() {
        BedsideNet net = new BedsideNet();
        net.device(6, 1);
        net.channel(6, 0, 0, 100, 1);
        net.channel(6, 1, 0, 100, 1);
        net.alarm(6, 1, 2, 40, 0);
        net.setPoint(6, 20, 60, 5);
        net.seal(6);
        net.restart(6);
        Ward.tie(net, 6, 1);
        net.sample(6, 1, 50);
        messageIs(net, 0, 1, 1, 50);
        messageIs(net, 1, 2, 1, 1);
        net.carry(1, false);
        messageIs(net, 2, 3, 0, 0);
        net.acknowledge(6, 1);
        messageIs(net, 3, 4, 1, 0);
        net.sample(6, 1, 40);
        messageIs(net, 5, 2, 1, 0);
        net.order(0, 6, 25, 20);
        net.order(0, 6, 25, 20);
        messageIs(net, 7, 5, 1, 0);
        net.carry(7, false);
        messageIs(net, 8, 6, 1, 2);
    }

    private static void messageIs(BedsideNet net, int number, int kind, int part, int value) {
        CHECK.same("kind of " + number, net.message(number, 0), kind);
        CHECK.same("device of " + number, net.message(number, 1), 6);
        CHECK.same("channel or order of " + number, net.message(number, 2), part);
        CHECK.same("life of " + number, net.message(number, 3), 2);
        CHECK.same("value of " + number, net.message(number, 4), value);
    }
}
