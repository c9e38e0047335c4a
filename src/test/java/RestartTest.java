/** Promise 21: what a restart ends, and what it leaves. */
public final class RestartTest {
    private static final Check CHECK = new Check();

    public static void main(String[] args) {
        refused();
        restart();
        CHECK.end();
    }

    private static void refused() {
        BedsideNet net = new BedsideNet();
        CHECK.no("-1", net.restart(-1));
        CHECK.no("8", net.restart(8));
        CHECK.no("not begun", net.restart(0));
        net.device(0, 0);
        net.channel(0, 0, 0, 9, 1);
        CHECK.no("not sealed", net.restart(0));
        CHECK.same("life", net.look(0, 2), 1);
    }

    private static void restart() {
        BedsideNet net = new BedsideNet();
        net.device(0, 2);
        net.channel(0, 0, 0, 100, 1);
        net.channel(0, 0, 0, 100, 1);
        net.alarm(0, 0, 1, 40, 0);
        net.alarm(0, 1, 2, 40, 1000);
        net.setPoint(0, 20, 60, 5);
        net.seal(0);
        Ward.tie(net, 0, 2);
        net.local(0, 30, false);
        net.local(0, -1, true);
        net.lease(1, 0);
        net.sample(0, 0, 50);
        net.carry(1, false);
        net.acknowledge(0, 0);
        Ward.carryNewest(net);
        net.sample(0, 1, 50);
        net.tick(900);
        int sent = net.count(1);
        CHECK.yes("restart", net.restart(0));
        CHECK.same("without a message", net.count(1), sent);
        int[] due = {2, 2, 2, 2, 0, 0, 30, -1, 0, 1, 1, -1, 0, -1, 3};
        for (int what = 0; what < due.length; what++) {
            CHECK.same("look " + what, net.look(0, what), due[what]);
        }
        CHECK.same("no value of channel 1", net.look(0, 20), 0);
        CHECK.no("not tied", net.sample(0, 0, 1));
        CHECK.yes("confirm", net.confirm(0));
        net.sample(0, 0, 50);
        CHECK.same("not acknowledged", net.look(0, 10), 2);
        net.sample(0, 1, 50);
        net.tick(999);
        CHECK.same("above only since then", net.look(0, 18), 1);
        net.tick(1);
        CHECK.same("ON", net.look(0, 18), 2);
        CHECK.yes("again", net.restart(0));
        CHECK.same("life", net.look(0, 2), 3);
    }
}
