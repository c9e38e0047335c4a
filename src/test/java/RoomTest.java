import java.util.NoSuchElementException;

/**
 * "64 may be PENDING, one that would be more is lost at once (its number is used)", for each kind of message; and "it
 * is pending no more (ahead of what it does), or, kept, still is".
 */
public final class RoomTest {
    private static final Check CHECK = new Check();
    private static final int ROOM = 64;

    public static void main(String[] args) {
        theLastThatHasRoom();
        theNumberIsUsed();
        roomByCarrying();
        roomByDropping();
        noRoomByKeeping();
        pendingByNumbers();
        lostValue();
        lostAlarm();
        lostAlarmOff();
        lostSounds();
        lostHeard();
        lostOrder();
        lostAnswer();
        answerTakesTheRoomOfItsOrder();
        soundsTakesTheRoomOfItsAlarm();
        alarmTakesTheRoomOfItsHeard();
        partOfATickIsLost();
        CHECK.end();
    }

    /** Device 0 with an alarm above 40 and a set-point, tied; as many ORDERs pending as told (they are numbers 0 ..). */
    private static BedsideNet filled(int pending, int priority) {
        BedsideNet net = new BedsideNet();
        net.device(0, 0);
        net.channel(0, 0, 0, 100, 1);
        net.alarm(0, 0, priority, 40, 0);
        net.setPoint(0, 20, 60, 5);
        net.seal(0);
        Ward.tie(net, 0, 0);
        fill(net, pending);
        return net;
    }

    private static void fill(BedsideNet net, int pending) {
        while (net.count(2) < pending) {
            net.order(0, 0, 25, 20);
        }
    }

    private static void counts(String what, BedsideNet net, int sent, int pending, int lost) {
        CHECK.same("sent, " + what, net.count(1), sent);
        CHECK.same("pending, " + what, net.count(2), pending);
        CHECK.same("lost, " + what, net.count(3), lost);
    }

    private static void theLastThatHasRoom() {
        BedsideNet net = filled(ROOM - 1, 2);
        counts("63", net, 63, 63, 0);
        net.sample(0, 0, 1);
        counts("64", net, 64, 64, 0);
        CHECK.same("the 64th", net.message(63, 4), 1);
        net.sample(0, 0, 2);
        counts("65", net, 65, 64, 1);
        net.sample(0, 0, 3);
        counts("66", net, 66, 64, 2);
    }

    private static void theNumberIsUsed() {
        BedsideNet net = filled(ROOM, 2);
        net.sample(0, 0, 1);
        CHECK.no("carry", net.carry(64, false));
        CHECK.no("carry kept", net.carry(64, true));
        CHECK.no("drop", net.drop(64));
        CHECK.throwing("message", NoSuchElementException.class, () -> net.message(64, 0));
        net.drop(5);
        net.sample(0, 0, 2);
        CHECK.same("the next one has the next number", net.message(65, 4), 2);
        CHECK.throwing("the lost one stays lost", NoSuchElementException.class, () -> net.message(64, 0));
    }

    private static void roomByCarrying() {
        BedsideNet net = Ward.full().object();
        net.carry(0, false);
        counts("carried", net, 64, 63, 0);
        net.sample(0, 0, 70);
        counts("room for one", net, 65, 64, 0);
        net.sample(0, 0, 71);
        counts("not for two", net, 66, 64, 1);
    }

    private static void roomByDropping() {
        BedsideNet net = Ward.full().object();
        net.drop(63);
        counts("dropped, not lost for want of room", net, 64, 63, 0);
        net.sample(0, 0, 70);
        counts("room for one", net, 65, 64, 0);
        net.sample(0, 0, 71);
        counts("not for two", net, 66, 64, 1);
    }

    private static void noRoomByKeeping() {
        BedsideNet net = Ward.full().object();
        net.carry(0, true);
        counts("kept", net, 64, 64, 0);
        net.sample(0, 0, 70);
        counts("no room", net, 65, 64, 1);
    }

    /** "from 200 on the number of pending message what - 200, by numbers" */
    private static void pendingByNumbers() {
        BedsideNet net = Ward.full().object();
        for (int i = 0; i < ROOM; i++) {
            CHECK.same("full " + i, net.count(200 + i), i);
        }
        CHECK.same("full, behind the last", net.count(264), -1);
        net.drop(0);
        net.drop(63);
        net.drop(31);
        net.sample(0, 0, 70);
        CHECK.same("first", net.count(200), 1);
        CHECK.same("before the gap", net.count(229), 30);
        CHECK.same("behind the gap", net.count(230), 32);
        CHECK.same("last but one", net.count(260), 62);
        CHECK.same("last", net.count(261), 64);
        CHECK.same("behind the last", net.count(262), -1);
        Ward.dropAll(net);
        CHECK.same("none", net.count(200), -1);
        CHECK.same("none pending", net.count(2), 0);
    }

    private static void lostValue() {
        BedsideNet net = filled(ROOM, 2);
        CHECK.yes("sample", net.sample(0, 0, 7));
        CHECK.same("it has the value all the same", net.look(0, 13), 7);
        counts("VALUE", net, 65, 64, 1);
    }

    private static void lostAlarm() {
        BedsideNet net = filled(ROOM, 2);
        net.sample(0, 0, 50);
        counts("VALUE and ALARM", net, 66, 64, 2);
        CHECK.same("ON all the same", net.look(0, 10), 2);
        CHECK.same("sounds", net.look(0, 5), 1);
        CHECK.same("the station does not know", net.look(0, 14), 0);
        Ward.dropAll(net);
        CHECK.same("and the ALARM is not sent again", net.tick(1000), 1);
        CHECK.same("but the VALUE", net.message(66, 0), 1);
        net = filled(ROOM - 1, 2);
        net.sample(0, 0, 50);
        counts("ALARM alone", net, 65, 64, 1);
        CHECK.same("the VALUE went first", net.message(63, 0), 1);
    }

    private static void lostAlarmOff() {
        BedsideNet net = filled(0, 2);
        net.sample(0, 0, 50);
        net.carry(1, false);
        fill(net, ROOM);
        int sent = net.count(1);
        net.sample(0, 0, 0);
        counts("VALUE and ALARM", net, sent + 2, 64, 2);
        CHECK.same("off all the same", net.look(0, 10), 1);
        CHECK.same("the station does not know", net.look(0, 14), 2);
    }

    private static void lostSounds() {
        BedsideNet net = filled(0, 2);
        net.sample(0, 0, 50);
        net.move(0, 0);
        fill(net, ROOM);
        net.carry(1, true);
        CHECK.same("lost", net.count(3), 1);
        CHECK.same("the station knows all the same", net.look(0, 14), 2);
        CHECK.same("it was sent, 999", net.tick(999), 0);
        CHECK.same("1000", net.tick(1), 1);
        CHECK.same("lost again", net.count(3), 2);
        CHECK.same("it was sent, 999", net.tick(999), 0);
        net.drop(0);
        CHECK.same("1000", net.tick(1), 1);
        CHECK.same("not lost", net.count(3), 2);
        CHECK.same("SOUNDS", net.message(Ward.newest(net), 0), 3);
    }

    private static void lostHeard() {
        BedsideNet net = filled(0, 2);
        net.sample(0, 0, 50);
        net.carry(1, false);
        fill(net, ROOM);
        CHECK.yes("acknowledge", net.acknowledge(0, 0));
        CHECK.same("lost", net.count(3), 1);
        CHECK.same("acknowledged at the station all the same", net.look(0, 14), 3);
        CHECK.same("not at the device", net.look(0, 10), 2);
        CHECK.no("nor again", net.acknowledge(0, 0));
    }

    private static void lostOrder() {
        BedsideNet net = filled(ROOM, 2);
        CHECK.same("order", net.order(0, 0, 25, 20), 64);
        counts("ORDER", net, 65, 64, 1);
        CHECK.same("orders", net.count(5), 65);
        CHECK.same("it waits", net.count(164), 0);
        net.drop(0);
        CHECK.same("the next one", net.order(0, 0, 25, 20), 65);
        CHECK.same("in message 65", net.message(65, 2), 65);
    }

    private static void lostAnswer() {
        BedsideNet net = filled(ROOM, 2);
        net.lease(0, 0);
        net.local(0, BedsideNet.NONE, true);
        net.carry(0, true);
        counts("ANSWER", net, 65, 64, 1);
        CHECK.same("done all the same", net.look(0, 6), 25);
        CHECK.same("not known", net.count(100), 0);
        net.drop(1);
        net.carry(0, true);
        CHECK.same("what came of it is told again", net.message(65, 4), 0);
        net.carry(65, false);
        CHECK.same("known", net.count(100), 1);
    }

    private static void answerTakesTheRoomOfItsOrder() {
        BedsideNet net = filled(ROOM, 2);
        net.carry(0, false);
        counts("ANSWER", net, 65, 64, 0);
        CHECK.same("ANSWER", net.message(64, 0), 6);
    }

    private static void soundsTakesTheRoomOfItsAlarm() {
        BedsideNet net = filled(0, 2);
        net.sample(0, 0, 50);
        fill(net, ROOM);
        int sent = net.count(1);
        net.carry(1, false);
        counts("SOUNDS", net, sent + 1, 64, 0);
        CHECK.same("SOUNDS", net.message(sent, 0), 3);
    }

    private static void alarmTakesTheRoomOfItsHeard() {
        BedsideNet net = filled(0, 1);
        net.sample(0, 0, 50);
        net.carry(1, false);
        net.acknowledge(0, 0);
        int heard = Ward.newest(net);
        net.sample(0, 0, 0);
        fill(net, ROOM);
        int sent = net.count(1);
        net.carry(heard, false);
        counts("ALARM", net, sent + 1, 64, 0);
        CHECK.same("ALARM", net.message(sent, 0), 2);
        CHECK.same("off", net.message(sent, 4), 0);
    }

    /** "how many messages were sent (lost ones, too)" */
    private static void partOfATickIsLost() {
        BedsideNet net = filled(0, 2);
        net.sample(0, 0, 50);
        net.carry(1, false);
        fill(net, ROOM - 1);
        int sent = net.count(1);
        CHECK.same("VALUE and SOUNDS", net.tick(1000), 2);
        counts("SOUNDS", net, sent + 2, 64, 1);
        CHECK.same("the VALUE went first", net.message(sent, 0), 1);
        CHECK.same("both", net.tick(1000), 2);
        counts("both", net, sent + 4, 64, 3);
    }
}
