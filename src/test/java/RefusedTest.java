import java.util.NoSuchElementException;

/**
 * "What answers false, or throws, changes nothing. Of several exceptions the one told first is thrown." Every promise,
 * at the first inputs behind its bounds, on a ward where there is something to change.
 */
public final class RefusedTest {
    private static final Check CHECK = new Check();
    private static final Class<IllegalArgumentException> ARGUMENT = IllegalArgumentException.class;
    private static final Class<IllegalStateException> STATE = IllegalStateException.class;
    private static final Class<IndexOutOfBoundsException> INDEX = IndexOutOfBoundsException.class;
    private static final Class<NoSuchElementException> ELEMENT = NoSuchElementException.class;
    private static final int[] NO_DEVICES = {-1, 8, Integer.MIN_VALUE, Integer.MAX_VALUE};
    private static final int[] NO_BEDS = {-1, 4, Integer.MIN_VALUE, Integer.MAX_VALUE};
    private static final int[] NO_UNITS = {-1, 16, Integer.MIN_VALUE, Integer.MAX_VALUE};
    private static final int[] NO_CONTROLLERS = {-1, 4, Integer.MIN_VALUE, Integer.MAX_VALUE};
    private static final int[] NO_NUMBERS = {-100001, 100001, Integer.MIN_VALUE, Integer.MAX_VALUE};
    private static final int[] NO_STEPS = {0, -1, 100001, Integer.MIN_VALUE, Integer.MAX_VALUE};
    private static final int[] NO_SPANS = {-1, 100001, Integer.MIN_VALUE, Integer.MAX_VALUE};
    private static final Twins WARD = new Twins(CHECK, Ward.busy());

    public static void main(String[] args) {
        noSuchDevice();
        notBegun();
        notSealed();
        sealed();
        device();
        channel();
        fifthChannel();
        alarm();
        setPoint();
        seal();
        move();
        patient();
        confirm();
        sample();
        tick();
        carryAndDrop();
        bind();
        seventeenthDisplay();
        shown();
        acknowledge();
        inhibit();
        lease();
        order();
        orderBehindTheHundredth();
        local();
        look();
        message();
        count();
        CHECK.end();
    }

    private static void noSuchDevice() {
        for (int none : NO_DEVICES) {
            WARD.no("device " + none, net -> net.device(none, 0));
            WARD.throwing("channel of " + none, ARGUMENT, net -> net.channel(none, 0, 0, 9, 1));
            WARD.no("alarm of " + none, net -> net.alarm(none, 0, 1, 40, 0));
            WARD.no("setPoint of " + none, net -> net.setPoint(none, 0, 9, 1));
            WARD.no("seal " + none, net -> net.seal(none));
            WARD.no("move " + none, net -> net.move(none, 1));
            WARD.no("confirm " + none, net -> net.confirm(none));
            WARD.no("sample of " + none, net -> net.sample(none, 0, 50));
            WARD.no("acknowledge of " + none, net -> net.acknowledge(none, 0));
            WARD.no("inhibit of " + none, net -> net.inhibit(none, 0, 100));
            WARD.no("lease of " + none, net -> net.lease(1, none));
            WARD.throwing("order to " + none, ARGUMENT, net -> net.order(1, none, 30, 20));
            WARD.no("local value of " + none, net -> net.local(none, 25, false));
            WARD.no("local of " + none, net -> net.local(none, BedsideNet.NONE, true));
            WARD.no("restart of " + none, net -> net.restart(none));
            WARD.throwing("look at " + none, INDEX, net -> net.look(none, 0));
        }
    }

    private static void notBegun() {
        WARD.throwing("channel, not begun", ARGUMENT, net -> net.channel(6, 0, 0, 9, 1));
        WARD.no("alarm, not begun", net -> net.alarm(6, 0, 1, 40, 0));
        WARD.no("setPoint, not begun", net -> net.setPoint(6, 0, 9, 1));
        WARD.no("seal, not begun", net -> net.seal(6));
        notWorking("not begun", 6);
    }

    private static void notSealed() {
        notWorking("not sealed", 2);
        notWorking("not sealed, four channels", 3);
        notWorking("not sealed, no channel", 4);
    }

    /** "only then it works" */
    private static void notWorking(String what, int device) {
        WARD.no("move, " + what, net -> net.move(device, 1));
        WARD.no("confirm, " + what, net -> net.confirm(device));
        WARD.no("sample, " + what, net -> net.sample(device, 0, 50));
        WARD.no("acknowledge, " + what, net -> net.acknowledge(device, 0));
        WARD.no("inhibit, " + what, net -> net.inhibit(device, 0, 100));
        WARD.no("lease, " + what, net -> net.lease(3, device));
        WARD.throwing("order, " + what, ARGUMENT, net -> net.order(3, device, 30, 20));
        WARD.no("local value, " + what, net -> net.local(device, 25, false));
        WARD.no("local, " + what, net -> net.local(device, BedsideNet.NONE, true));
        WARD.no("restart, " + what, net -> net.restart(device));
    }

    /** "Such are told until it is SEALED" */
    private static void sealed() {
        for (int device : new int[] {0, 1, 5, 7}) {
            WARD.no("device, sealed", net -> net.device(device, 0));
            WARD.throwing("channel, sealed", ARGUMENT, net -> net.channel(device, 0, 0, 9, 1));
            WARD.no("alarm, sealed", net -> net.alarm(device, 0, 3, 10, 0));
            WARD.no("setPoint, sealed", net -> net.setPoint(device, 0, 9, 1));
            WARD.no("seal, sealed", net -> net.seal(device));
        }
    }

    private static void device() {
        for (int none : NO_BEDS) {
            WARD.no("device not begun at bed " + none, net -> net.device(6, none));
            WARD.no("device begun at bed " + none, net -> net.device(2, none));
        }
    }

    private static void channel() {
        for (int none : NO_UNITS) {
            WARD.throwing("unit " + none, ARGUMENT, net -> net.channel(2, none, 0, 9, 1));
        }
        for (int none : NO_NUMBERS) {
            WARD.throwing("low " + none, ARGUMENT, net -> net.channel(2, 0, none, 9, 1));
            WARD.throwing("high " + none, ARGUMENT, net -> net.channel(2, 0, 0, none, 1));
        }
        for (int none : NO_STEPS) {
            WARD.throwing("step " + none, ARGUMENT, net -> net.channel(2, 0, 0, 9, none));
        }
        WARD.throwing("low above high", ARGUMENT, net -> net.channel(2, 0, 10, 9, 1));
        WARD.throwing("low far above high", ARGUMENT, net -> net.channel(2, 0, 100000, -100000, 1));
    }

    /** IllegalArgumentException is told ahead of IllegalStateException. */
    private static void fifthChannel() {
        WARD.throwing("a fifth", STATE, net -> net.channel(3, 0, 0, 9, 1));
        WARD.throwing("a fifth, unit", ARGUMENT, net -> net.channel(3, 16, 0, 9, 1));
        WARD.throwing("a fifth, low", ARGUMENT, net -> net.channel(3, 0, -100001, 9, 1));
        WARD.throwing("a fifth, high", ARGUMENT, net -> net.channel(3, 0, 0, 100001, 1));
        WARD.throwing("a fifth, low above high", ARGUMENT, net -> net.channel(3, 0, 10, 9, 1));
        WARD.throwing("a fifth, step", ARGUMENT, net -> net.channel(3, 0, 0, 9, 0));
        Script four = new Script().then(net -> net.device(0, 0));
        for (int k = 0; k < 4; k++) {
            four.then(net -> net.channel(0, 0, 0, 9, 1));
        }
        four.then(net -> net.seal(0));
        new Twins(CHECK, four).throwing("a fifth, sealed", ARGUMENT, net -> net.channel(0, 0, 0, 9, 1));
    }

    private static void alarm() {
        WARD.no("channel -1", net -> net.alarm(2, -1, 1, 40, 0));
        WARD.no("channel behind the last", net -> net.alarm(2, 1, 1, 40, 0));
        WARD.no("channel 4 of four", net -> net.alarm(3, 4, 1, 40, 0));
        WARD.no("channel 0 of none", net -> net.alarm(4, 0, 1, 40, 0));
        WARD.no("channel far behind", net -> net.alarm(2, Integer.MAX_VALUE, 1, 40, 0));
        for (int none : new int[] {0, 4, -1, Integer.MIN_VALUE, Integer.MAX_VALUE}) {
            WARD.no("priority " + none, net -> net.alarm(2, 0, none, 40, 0));
        }
        for (int none : NO_NUMBERS) {
            WARD.no("limit " + none, net -> net.alarm(2, 0, 1, none, 0));
        }
        for (int none : NO_SPANS) {
            WARD.no("delay " + none, net -> net.alarm(2, 0, 1, 40, none));
        }
    }

    private static void setPoint() {
        // Device 2 has a set-point, device 3 has none.
        for (int device = 2; device <= 3; device++) {
            int each = device;
            for (int none : NO_NUMBERS) {
                WARD.no("low " + none, net -> net.setPoint(each, none, 9, 1));
                WARD.no("high " + none, net -> net.setPoint(each, 0, none, 1));
            }
            for (int none : NO_STEPS) {
                WARD.no("step " + none, net -> net.setPoint(each, 0, 9, none));
            }
            WARD.no("low above high", net -> net.setPoint(each, 10, 9, 1));
        }
    }

    private static void seal() {
        WARD.no("without a channel", net -> net.seal(4));
    }

    private static void move() {
        for (int none : NO_BEDS) {
            WARD.no("to bed " + none, net -> net.move(0, none));
        }
    }

    private static void patient() {
        for (int none : NO_BEDS) {
            WARD.no("of bed " + none, net -> net.patient(none, 4));
            WARD.no("none of bed " + none, net -> net.patient(none, 0));
        }
        WARD.no("number -1", net -> net.patient(0, -1));
        WARD.no("the least number", net -> net.patient(0, Integer.MIN_VALUE));
        WARD.no("that one", net -> net.patient(0, Ward.PATIENT));
        WARD.no("none where there is none", net -> net.patient(3, 0));
    }

    private static void confirm() {
        WARD.no("the bed has none", net -> net.confirm(7));
        WARD.no("it is tied", net -> net.confirm(0));
    }

    private static void sample() {
        WARD.no("not tied", net -> net.sample(5, 0, 50));
        for (int none : new int[] {-1, 2, 3, 4, Integer.MIN_VALUE, Integer.MAX_VALUE}) {
            WARD.no("channel " + none, net -> net.sample(0, none, 50));
        }
        for (int unfit : new int[] {-1, 101, Integer.MIN_VALUE, Integer.MAX_VALUE}) {
            WARD.no("0 .. 100 and " + unfit, net -> net.sample(0, 0, unfit));
        }
        for (int unfit : new int[] {-5, 105, 1, 4, 6, 44, 46, 99}) {
            WARD.no("0 .. 100 by 5 and " + unfit, net -> net.sample(0, 1, unfit));
        }
        for (int unfit : new int[] {-51, -65, 56, 70, -49, -36, 54, 0, 9, 11}) {
            WARD.no("-50 .. 55 by 15 and " + unfit, net -> net.sample(1, 0, unfit));
        }
    }

    private static void tick() {
        for (int none : new int[] {0, -1, 10001, Integer.MIN_VALUE, Integer.MAX_VALUE}) {
            WARD.throwing("tick " + none, ARGUMENT, net -> net.tick(none));
        }
    }

    /** Of a busy ward message 0 was carried, message 4 dropped, and the newest has number 10. */
    private static void carryAndDrop() {
        for (int none : new int[] {-1, 0, 4, 11, Integer.MIN_VALUE, Integer.MAX_VALUE}) {
            WARD.no("carry " + none, net -> net.carry(none, false));
            WARD.no("carry kept " + none, net -> net.carry(none, true));
            WARD.no("drop " + none, net -> net.drop(none));
        }
        Script full = Ward.full();
        full.then(net -> net.sample(0, 0, 9));
        Twins lost = new Twins(CHECK, full);
        lost.no("carry one that was lost for want of room", net -> net.carry(64, false));
        lost.no("carry it kept", net -> net.carry(64, true));
        lost.no("drop it", net -> net.drop(64));
        lost.throwing("read it", ELEMENT, net -> net.message(64, 0));
    }

    private static void bind() {
        for (int none : NO_BEDS) {
            WARD.throwing("bed " + none, ARGUMENT, net -> net.bind(none, 0));
        }
        for (int none : NO_UNITS) {
            WARD.throwing("unit " + none, ARGUMENT, net -> net.bind(0, none));
        }
        WARD.throwing("a unit that only one that is not sealed has", STATE, net -> net.bind(0, 2));
        WARD.throwing("a unit that only one that is not tied has", STATE, net -> net.bind(2, 0));
        WARD.throwing("a unit that only another bed has", STATE, net -> net.bind(1, 1));
        WARD.throwing("a unit that none has", STATE, net -> net.bind(0, 15));
    }

    private static void seventeenthDisplay() {
        Script full = Ward.busy();
        for (int i = 2; i < 16; i++) {
            full.then(net -> net.bind(0, 0));
        }
        Twins sixteen = new Twins(CHECK, full);
        sixteen.throwing("a 17th", STATE, net -> net.bind(0, 0));
        sixteen.throwing("a 17th without a device", STATE, net -> net.bind(3, 0));
        sixteen.throwing("a 17th of no bed", ARGUMENT, net -> net.bind(4, 0));
        sixteen.throwing("a 17th of no unit", ARGUMENT, net -> net.bind(0, 16));
    }

    /** Handle 0 shows a value, handle 1 nothing; looking changes nothing either. */
    private static void shown() {
        for (int none : new int[] {-1, 2, 16, Integer.MIN_VALUE, Integer.MAX_VALUE}) {
            for (int what = 0; what < 4; what++) {
                int each = what;
                WARD.throwing("shown of " + none, INDEX, net -> net.shown(none, each));
            }
        }
        for (int none : new int[] {-1, 4, Integer.MIN_VALUE, Integer.MAX_VALUE}) {
            WARD.throwing("what " + none, INDEX, net -> net.shown(0, none));
            WARD.throwing("what of one that shows nothing " + none, INDEX, net -> net.shown(1, none));
        }
        WARD.throwing("no value", ELEMENT, net -> net.shown(1, 0));
        WARD.throwing("no age", ELEMENT, net -> net.shown(1, 1));
        WARD.unchanged("value", "50", net -> net.shown(0, 0));
        WARD.unchanged("age", "500", net -> net.shown(0, 1));
        WARD.unchanged("device", "1", net -> net.shown(1, 2));
        WARD.unchanged("channel", "0", net -> net.shown(1, 3));
    }

    private static void acknowledge() {
        for (int none : new int[] {-1, 2, 3, 4, Integer.MIN_VALUE, Integer.MAX_VALUE}) {
            WARD.no("channel " + none, net -> net.acknowledge(0, none));
        }
        WARD.no("of which it knows nothing", net -> net.acknowledge(0, 1));
        WARD.no("without an alarm", net -> net.acknowledge(1, 1));
        WARD.no("acknowledged there", net -> net.acknowledge(1, 0));
        Script off = Ward.busy().then(net -> net.sample(1, 0, -50)).then(net -> net.carry(12, false));
        Twins known = new Twins(CHECK, off);
        known.unchanged("known off", "1", net -> net.look(1, 14));
        known.no("known off", net -> net.acknowledge(1, 0));
    }

    private static void inhibit() {
        for (int none : new int[] {-1, 2, 3, 4, Integer.MIN_VALUE, Integer.MAX_VALUE}) {
            WARD.no("channel " + none, net -> net.inhibit(0, none, 100));
        }
        WARD.no("without an alarm", net -> net.inhibit(1, 1, 100));
        for (int none : NO_SPANS) {
            WARD.no("for " + none, net -> net.inhibit(0, 1, none));
        }
    }

    private static void lease() {
        for (int none : NO_CONTROLLERS) {
            WARD.no("controller " + none + " where one has it", net -> net.lease(none, 0));
            WARD.no("controller " + none + " where none has it", net -> net.lease(none, 5));
        }
        WARD.no("without a set-point", net -> net.lease(1, 1));
        for (int other : new int[] {0, 2, 3}) {
            WARD.no("another one has it, " + other, net -> net.lease(other, 0));
        }
    }

    private static void order() {
        for (int none : NO_CONTROLLERS) {
            WARD.throwing("controller " + none, ARGUMENT, net -> net.order(none, 0, 30, 20));
        }
        WARD.throwing("without a set-point", ARGUMENT, net -> net.order(1, 1, 30, 20));
    }

    private static void orderBehindTheHundredth() {
        Script many = Ward.pumpScript();
        for (int i = 0; i < 100; i++) {
            many.then(net -> net.order(1, 0, 30, 20));
        }
        Twins hundred = new Twins(CHECK, many);
        hundred.throwing("a 101st", STATE, net -> net.order(1, 0, 30, 20));
        hundred.throwing("a 101st of no controller", ARGUMENT, net -> net.order(4, 0, 30, 20));
        hundred.throwing("a 101st to no device", ARGUMENT, net -> net.order(1, 8, 30, 20));
        hundred.throwing("a 101st to one not begun", ARGUMENT, net -> net.order(1, 1, 30, 20));
    }

    private static void local() {
        WARD.no("value, without a set-point", net -> net.local(1, 25, false));
        WARD.no("remote, without a set-point", net -> net.local(1, BedsideNet.NONE, true));
        WARD.no("local, without a set-point", net -> net.local(1, BedsideNet.NONE, false));
        for (boolean remote : new boolean[] {false, true}) {
            WARD.no("value of a remote one", net -> net.local(0, 25, remote));
            for (int unfit : new int[] {19, 21, 15, 24, 26, 59, 61, 65, -2, Integer.MIN_VALUE, Integer.MAX_VALUE}) {
                WARD.no("20 .. 60 by 5 and " + unfit, net -> net.local(5, unfit, remote));
            }
        }
    }

    private static void look() {
        for (int none : new int[] {-1, 15, 16, 17, 23, 24, 25, 31, 32, 33, 39, 40, 41, 42, 43, 44, 45, 46,
            Integer.MIN_VALUE, Integer.MAX_VALUE}) {
            WARD.throwing("what " + none, INDEX, net -> net.look(0, none));
            WARD.throwing("what " + none + " of one not begun", INDEX, net -> net.look(6, none));
        }
        WARD.unchanged("sounds", "1", net -> net.look(0, 5));
        WARD.unchanged("no bed", "-1", net -> net.look(6, 1));
    }

    private static void message() {
        for (int none : new int[] {-1, 0, 4, 11, Integer.MIN_VALUE, Integer.MAX_VALUE}) {
            for (int what = -1; what <= 5; what++) {
                int each = what;
                WARD.throwing("message " + none, ELEMENT, net -> net.message(none, each));
            }
        }
        for (int none : new int[] {-1, 5, Integer.MIN_VALUE, Integer.MAX_VALUE}) {
            WARD.throwing("what " + none, INDEX, net -> net.message(1, none));
        }
        WARD.unchanged("kind", "2", net -> net.message(1, 0));
    }

    private static void count() {
        for (int none : new int[] {-1, 7, 8, 99, 102, 199, 207, 263, 264, 299, 304, Integer.MIN_VALUE,
            Integer.MAX_VALUE}) {
            WARD.unchanged("count " + none, "-1", net -> net.count(none));
        }
        WARD.unchanged("pending", "7", net -> net.count(2));
        WARD.unchanged("the last one", "10", net -> net.count(206));
        WARD.unchanged("the last order", "0", net -> net.count(101));
    }
}
