/** What two objects go through behind a call that must have changed nothing, so that hidden changes come to light. */
final class Futures {
    static final int COUNT = 3;

    private static final int[] TICKS = {1, 498, 1, 499, 1, 999, 1, 1000, 2000, 4999, 1, 10000};

    private Futures() {
    }

    static void add(int which, Script script) {
        switch (which) {
            case 0 -> timeGoesBy(script);
            case 1 -> allComes(script);
            default -> allIsUsed(script);
        }
    }

    private static void timeGoesBy(Script script) {
        for (int ms : TICKS) {
            script.then(net -> net.tick(ms));
            script.then(net -> net.look(0, 5));
            script.then(net -> net.look(0, 7));
            script.then(net -> net.look(0, 10));
            script.then(net -> net.look(0, 18));
            script.then(net -> net.look(1, 10));
            script.then(net -> net.shown(0, 1));
            script.then(net -> net.count(6));
        }
    }

    private static void allComes(Script script) {
        for (int round = 0; round < 2; round++) {
            for (int i = 0; i < 12; i++) {
                int place = 200 + i;
                script.then(net -> net.carry(net.count(place), true));
            }
            script.then(net -> net.acknowledge(0, 0));
            script.then(net -> net.acknowledge(0, 1));
            script.then(net -> net.acknowledge(1, 0));
            script.then(net -> net.tick(700));
            for (int i = 0; i < 12; i++) {
                script.then(net -> net.carry(net.count(200), false));
            }
            script.then(net -> net.tick(1000));
        }
    }

    private static void allIsUsed(Script script) {
        script.then(net -> net.seal(2)).then(net -> net.seal(3)).then(net -> net.patient(3, 8));
        for (int device = 0; device < 8; device++) {
            int each = device;
            script.then(net -> net.confirm(each));
            script.then(net -> net.sample(each, 0, 50));
            script.then(net -> net.lease(2, each));
            script.then(net -> net.local(each, 25, false));
            script.then(net -> net.order(2, each, 30, 25));
            script.then(net -> net.bind(each % 4, each / 4));
            script.then(net -> net.channel(each, 0, 0, 50, 1));
        }
        script.then(net -> net.tick(1000));
        script.then(net -> net.device(6, 1)).then(net -> net.channel(6, 0, 0, 9, 1)).then(net -> net.look(6, 10));
        script.then(net -> net.restart(0)).then(net -> net.confirm(0)).then(net -> net.sample(0, 1, 45));
        script.then(net -> net.tick(999)).then(net -> net.tick(1)).then(net -> net.tick(9999));
    }
}
