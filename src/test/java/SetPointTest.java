/** Promises 18 to 20: leases, orders and setting at the device. */
public final class SetPointTest {
    private static final Check CHECK = new Check();

    public static void main(String[] args) {
        lease();
        leaseRefused();
        orderDone();
        orderReasons();
        theLeastReason();
        judgedOnce();
        orderRefused();
        orderLostForWantOfRoom();
        answersOfAnotherLife();
        local();
        CHECK.end();
    }

    private static void lease() {
        BedsideNet net = Ward.pump();
        CHECK.same("none", net.look(0, 7), -1);
        CHECK.yes("takes", net.lease(3, 0));
        CHECK.same("has", net.look(0, 7), 3);
        CHECK.no("another one", net.lease(0, 0));
        net.tick(9999);
        CHECK.same("9999", net.look(0, 7), 3);
        CHECK.no("another one, 9999", net.lease(0, 0));
        CHECK.yes("anew", net.lease(3, 0));
        net.tick(9999);
        CHECK.same("9999 from there", net.look(0, 7), 3);
        net.tick(1);
        CHECK.same("10000", net.look(0, 7), -1);
        CHECK.yes("another one, 10000", net.lease(0, 0));
        CHECK.same("has", net.look(0, 7), 0);
        net.restart(0);
        CHECK.same("gone with a restart", net.look(0, 7), -1);
    }

    private static void leaseRefused() {
        BedsideNet net = Ward.pump();
        CHECK.no("controller -1", net.lease(-1, 0));
        CHECK.no("controller 4", net.lease(4, 0));
        CHECK.no("device -1", net.lease(0, -1));
        CHECK.no("device 8", net.lease(0, 8));
        CHECK.no("not begun", net.lease(0, 1));
        net.device(1, 0);
        net.channel(1, 0, 0, 9, 1);
        net.setPoint(1, 0, 9, 1);
        CHECK.no("not sealed", net.lease(0, 1));
        net.device(1, 0);
        net.channel(1, 0, 0, 9, 1);
        net.seal(1);
        CHECK.no("without a set-point", net.lease(0, 1));
    }

    private static void orderDone() {
        BedsideNet net = remotePump();
        CHECK.same("order", net.order(1, 0, 60, 20), 0);
        CHECK.same("orders", net.count(5), 1);
        CHECK.same("waiting", net.count(100), 0);
        CHECK.same("not yet", net.look(0, 6), 20);
        net.carry(0, false);
        CHECK.same("done", net.look(0, 6), 60);
        CHECK.same("not yet known", net.count(100), 0);
        net.carry(1, false);
        CHECK.same("known", net.count(100), 1);
        CHECK.same("no such order", net.count(101), -1);
    }

    private static void orderReasons() {
        BedsideNet net = remotePump();
        net.order(1, 0, 25, 20);
        net.restart(0);
        answered(net, 0, 1);
        net.local(0, -1, true);
        net.order(1, 0, 25, 20);
        answered(net, 1, 2);
        net.lease(2, 0);
        net.order(1, 0, 25, 20);
        answered(net, 2, 2);
        net.local(0, -1, false);
        net.order(2, 0, 25, 20);
        answered(net, 3, 3);
        net.local(0, -1, true);
        net.order(2, 0, 26, 20);
        answered(net, 4, 4);
        net.order(2, 0, Integer.MIN_VALUE, 20);
        answered(net, 5, 4);
        net.order(2, 0, 25, 21);
        answered(net, 6, 5);
        CHECK.same("none was done", net.look(0, 6), 20);
        net.order(2, 0, 25, 20);
        answered(net, 7, 0);
        CHECK.same("done", net.look(0, 6), 25);
        net.tick(10000);
        net.order(2, 0, 30, 25);
        answered(net, 8, 2);
    }

    private static void theLeastReason() {
        BedsideNet net = remotePump();
        net.order(1, 0, 26, 21);
        net.restart(0);
        answered(net, 0, 1);
        net.order(1, 0, 26, 21);
        answered(net, 1, 2);
        net.lease(1, 0);
        net.order(1, 0, 26, 21);
        answered(net, 2, 3);
        net.local(0, -1, true);
        net.order(1, 0, 26, 21);
        answered(net, 3, 4);
    }

    private static void answered(BedsideNet net, int order, int reason) {
        for (int i = net.count(2) - 1; i >= 0; i--) {
            net.carry(net.count(200 + i), false);
        }
        int answer = Ward.newest(net);
        CHECK.same("kind", net.message(answer, 0), 6);
        CHECK.same("order", net.message(answer, 2), order);
        CHECK.same("reason of " + order, net.message(answer, 4), reason);
        net.carry(answer, false);
        CHECK.same("known of " + order, net.count(100 + order), 1 + reason);
    }

    private static void judgedOnce() {
        BedsideNet net = remotePump();
        net.order(1, 0, 25, 20);
        net.carry(0, true);
        net.local(0, -1, false);
        net.local(0, 20, false);
        net.local(0, -1, true);
        net.carry(0, true);
        CHECK.same("not done again", net.look(0, 6), 20);
        CHECK.same("an answer each time", net.count(1), 3);
        CHECK.same("the same", net.message(2, 4), 0);
        net.restart(0);
        net.carry(0, true);
        CHECK.same("also in another life", net.message(3, 4), 0);
        CHECK.same("which it has", net.message(3, 3), 2);
        net = Ward.pump();
        net.order(1, 0, 25, 20);
        net.carry(0, true);
        net.lease(1, 0);
        net.local(0, -1, true);
        net.carry(0, false);
        CHECK.same("refused stays refused", net.message(2, 4), 2);
        CHECK.same("not done", net.look(0, 6), 20);
    }

    private static void orderRefused() {
        BedsideNet net = Ward.pump();
        net.device(1, 0);
        net.channel(1, 0, 0, 9, 1);
        net.seal(1);
        net.device(2, 0);
        net.channel(2, 0, 0, 9, 1);
        net.setPoint(2, 0, 9, 1);
        int[][] wrong = {{-1, 0}, {4, 0}, {0, -1}, {0, 8}, {0, 1}, {0, 2}, {0, 3}};
        for (int[] pair : wrong) {
            CHECK.throwing("order " + pair[0] + " " + pair[1], IllegalArgumentException.class,
                    () -> net.order(pair[0], pair[1], 1, 1));
        }
        CHECK.same("nothing sent", net.count(1), 0);
        for (int i = 0; i < 100; i++) {
            CHECK.same("order", net.order(i % 4, 0, 25, 20), i);
            net.drop(i);
        }
        CHECK.throwing("a 101st", IllegalStateException.class, () -> net.order(0, 0, 25, 20));
        CHECK.throwing("told first", IllegalArgumentException.class, () -> net.order(4, 0, 25, 20));
        CHECK.same("orders", net.count(5), 100);
        CHECK.same("the last one waits", net.count(199), 0);
        CHECK.same("nothing sent", net.count(1), 100);
    }

    private static void orderLostForWantOfRoom() {
        BedsideNet net = Ward.pump();
        for (int i = 0; i < 64; i++) {
            net.order(0, 0, 25, 20);
        }
        CHECK.same("number", net.order(0, 0, 25, 20), 64);
        CHECK.same("lost", net.count(3), 1);
        CHECK.same("waiting", net.count(164), 0);
        net.drop(0);
        CHECK.same("number behind it", net.order(0, 0, 25, 20), 65);
        CHECK.same("its order", net.message(65, 2), 65);
    }

    private static void answersOfAnotherLife() {
        BedsideNet net = remotePump();
        net.order(1, 0, 25, 20);
        net.carry(0, false);
        net.restart(0);
        net.carry(1, false);
        CHECK.same("an answer is known in every life", net.count(100), 1);
    }

    private static void local() {
        BedsideNet net = Ward.pump();
        CHECK.no("device -1", net.local(-1, 25, false));
        CHECK.no("device 8", net.local(8, 25, false));
        CHECK.no("not begun", net.local(1, -1, true));
        net.device(1, 0);
        net.channel(1, 0, -5, 5, 1);
        net.setPoint(1, -5, 5, 1);
        CHECK.no("not sealed", net.local(1, -1, true));
        net.seal(1);
        net.device(2, 0);
        net.channel(2, 0, 0, 9, 1);
        net.seal(2);
        CHECK.no("without a set-point", net.local(2, -1, true));
        CHECK.same("it stays local", net.look(2, 8), 0);
        CHECK.same("local at first", net.look(0, 8), 0);
        CHECK.yes("a value", net.local(0, 60, true));
        CHECK.same("is there", net.look(0, 6), 60);
        CHECK.same("remote is not looked at", net.look(0, 8), 0);
        CHECK.no("does not fit", net.local(0, 61, false));
        CHECK.no("below", net.local(0, 15, false));
        CHECK.no("above", net.local(0, 65, false));
        CHECK.yes("remote", net.local(0, BedsideNet.NONE, true));
        CHECK.yes("again", net.local(0, BedsideNet.NONE, true));
        CHECK.same("is remote", net.look(0, 8), 1);
        CHECK.no("a value", net.local(0, 25, false));
        CHECK.same("stays", net.look(0, 6), 60);
        CHECK.yes("local", net.local(0, BedsideNet.NONE, false));
        CHECK.same("is local", net.look(0, 8), 0);
        CHECK.yes("NONE where -1 fits", net.local(1, -1, true));
        CHECK.same("is no value", net.look(1, 6), -5);
        CHECK.same("but remote", net.look(1, 8), 1);
    }

    private static BedsideNet remotePump() {
        BedsideNet net = Ward.pump();
        net.lease(1, 0);
        net.local(0, BedsideNet.NONE, true);
        return net;
    }
}
