import java.util.ArrayList;
import java.util.List;
import java.util.NoSuchElementException;
import java.util.function.Predicate;

/**
 * The document's sentences once more, over a record of all that ever happened: what a device, the station or a display
 * knows is looked up in the record, each time anew. It is slow, and written in another way than the class, so that the
 * two do not share their slips.
 */
final class Model implements Face {
    /** What can happen. */
    enum What {
        SEALED, PLACED, TIED, UNTIED, PATIENT, MEASURED, INHIBITED, BEGAN, ENDED, SENT, CAME, ACKNOWLEDGED, LEASED, SET,
        REMOTE, LOCAL, JUDGED
    }

    /** One thing that happened; part is a channel, an order, a bed or a controller, value what it brought. */
    record Event(What what, int time, int device, int part, int life, int value, Message message) {
    }

    record Message(int number, int kind, int device, int part, int life, int value, int measured, int patient,
            boolean lost) {
    }

    record Handle(int device, int channel, int life, int patient, int boundAt) {
    }

    record Order(int controller, int device, int value, int expected) {
    }

    private record Range(int low, int high, int step) {
        private boolean canBe() {
            return isNumber(low) && isNumber(high) && isNumber(step) && step >= 1 && low <= high;
        }

        private boolean fits(int value) {
            return value >= low && value <= high && ((long) value - low) % step == 0;
        }
    }

    private record Alarm(int priority, int limit, int delay) {
    }

    private static final class Channel {
        private final int unit;
        private final Range range;
        private Alarm alarm;

        private Channel(int unit, Range range) {
            this.unit = unit;
            this.range = range;
        }
    }

    private static final class Description {
        private final List<Channel> channels = new ArrayList<>();
        private Range setPoint;
    }

    private static final int NONE = -1;

    final List<Event> record = new ArrayList<>();
    private final List<Message> messages = new ArrayList<>();
    private final List<Message> pending = new ArrayList<>();
    private final List<Handle> handles = new ArrayList<>();
    private final List<Order> orders = new ArrayList<>();
    private final Description[] descriptions = new Description[8];
    private final int[] lives = {1, 1, 1, 1, 1, 1, 1, 1};
    private int now;

    // ---- the record

    private void note(What what, int device, int part, int value) {
        record.add(new Event(what, now, device, part, isDevice(device) ? lives[device] : 0, value, null));
    }

    private Event last(Predicate<Event> such) {
        int at = lastAt(such);
        return at == NONE ? null : record.get(at);
    }

    private int lastAt(Predicate<Event> such) {
        for (int i = record.size() - 1; i >= 0; i--) {
            if (such.test(record.get(i))) {
                return i;
            }
        }
        return NONE;
    }

    private static boolean isOf(Event event, What what, int device) {
        return event.what == what && event.device == device;
    }

    private static boolean isOf(Event event, What what, int device, int part) {
        return isOf(event, what, device) && event.part == part;
    }

    /** Whether an event is one of the device's present life. */
    private boolean isPresent(Event event) {
        return event.life == lives[event.device];
    }

    // ---- what there is

    private static boolean isNumber(int number) {
        return Math.abs((long) number) <= 100000;
    }

    private static boolean isWithin(int number, int first, int last) {
        return first <= number && number <= last;
    }

    private static boolean isDevice(int device) {
        return isWithin(device, 0, 7);
    }

    private static boolean isBed(int bed) {
        return isWithin(bed, 0, 3);
    }

    private boolean isSealed(int device) {
        return last(e -> isOf(e, What.SEALED, device)) != null;
    }

    private boolean isBeingDescribed(int device) {
        return isDevice(device) && descriptions[device] != null && !isSealed(device);
    }

    private boolean hasChannel(int device, int channel) {
        return isDevice(device) && descriptions[device] != null
                && isWithin(channel, 0, descriptions[device].channels.size() - 1);
    }

    private boolean hasSetPoint(int device) {
        return isSealed(device) && descriptions[device].setPoint != null;
    }

    private Alarm alarmOf(int device, int channel) {
        return descriptions[device].channels.get(channel).alarm;
    }

    private int bed(int device) {
        Event placed = last(e -> isOf(e, What.PLACED, device));
        return placed == null ? NONE : placed.part;
    }

    private int patient(int bed) {
        Event came = last(e -> e.what == What.PATIENT && e.part == bed);
        return came == null ? 0 : came.value;
    }

    private int tiedTo(int device) {
        Event tie = last(e -> isOf(e, What.TIED, device) || isOf(e, What.UNTIED, device));
        return tie == null || tie.what == What.UNTIED ? 0 : tie.value;
    }

    // ---- describing

    @Override
    public boolean device(int device, int bed) {
        if (!isDevice(device) || isSealed(device) || !isBed(bed)) {
            return false;
        }
        descriptions[device] = new Description();
        note(What.PLACED, device, bed, 0);
        return true;
    }

    @Override
    public int channel(int device, int unit, int low, int high, int step) {
        Range range = new Range(low, high, step);
        if (!isBeingDescribed(device) || !isWithin(unit, 0, 15) || !range.canBe()) {
            throw new IllegalArgumentException();
        }
        List<Channel> channels = descriptions[device].channels;
        if (channels.size() == 4) {
            throw new IllegalStateException();
        }
        channels.add(new Channel(unit, range));
        return channels.size() - 1;
    }

    @Override
    public boolean alarm(int device, int channel, int priority, int limit, int delay) {
        boolean can = isBeingDescribed(device) && hasChannel(device, channel) && isWithin(priority, 1, 3)
                && isNumber(limit) && isWithin(delay, 0, 100000);
        if (can) {
            descriptions[device].channels.get(channel).alarm = new Alarm(priority, limit, delay);
        }
        return can;
    }

    @Override
    public boolean setPoint(int device, int low, int high, int step) {
        Range range = new Range(low, high, step);
        boolean can = isBeingDescribed(device) && range.canBe();
        if (can) {
            descriptions[device].setPoint = range;
            note(What.SET, device, NONE, low);
        }
        return can;
    }

    @Override
    public boolean seal(int device) {
        boolean can = isBeingDescribed(device) && !descriptions[device].channels.isEmpty();
        if (can) {
            note(What.SEALED, device, NONE, 0);
        }
        return can;
    }

    // ---- beds, patients, measurements

    @Override
    public boolean move(int device, int bed) {
        if (!isSealed(device) || !isBed(bed)) {
            return false;
        }
        note(What.PLACED, device, bed, 0);
        note(What.UNTIED, device, NONE, 0);
        return true;
    }

    @Override
    public boolean patient(int bed, int number) {
        if (!isBed(bed) || number < 0 || patient(bed) == number) {
            return false;
        }
        note(What.PATIENT, NONE, bed, number);
        for (int device = 0; device < 8; device++) {
            if (bed(device) == bed) {
                note(What.UNTIED, device, NONE, 0);
            }
        }
        return true;
    }

    @Override
    public boolean confirm(int device) {
        if (!isSealed(device) || patient(bed(device)) == 0 || tiedTo(device) != 0) {
            return false;
        }
        note(What.TIED, device, NONE, patient(bed(device)));
        return true;
    }

    @Override
    public boolean sample(int device, int channel, int value) {
        if (!isSealed(device) || tiedTo(device) == 0 || !hasChannel(device, channel)
                || !descriptions[device].channels.get(channel).range.fits(value)) {
            return false;
        }
        note(What.MEASURED, device, channel, value);
        sendValue(device, channel);
        endCall();
        return true;
    }

    private Event measured(int device, int channel) {
        return last(e -> isOf(e, What.MEASURED, device, channel) && isPresent(e));
    }

    private boolean wasMeasuredSinceTied(int device, int channel) {
        return lastAt(e -> isOf(e, What.MEASURED, device, channel)) > lastAt(e -> isOf(e, What.TIED, device));
    }

    // ---- messages

    private void send(int kind, int device, int part, int value, int measured, int patient) {
        boolean isLost = pending.size() == 64;
        Message message = new Message(messages.size(), kind, device, part, lives[device], value, measured, patient,
                isLost);
        messages.add(message);
        if (!isLost) {
            pending.add(message);
        }
        record.add(new Event(What.SENT, now, device, part, message.life, value, message));
    }

    private void sendValue(int device, int channel) {
        Event value = measured(device, channel);
        send(1, device, channel, value.value, value.time, tiedTo(device));
    }

    private boolean wasSentWithin(int ms, Predicate<Message> such) {
        return last(e -> e.what == What.SENT && now - e.time < ms && such.test(e.message)) != null;
    }

    private Message pending(int number) {
        for (Message message : pending) {
            if (message.number == number) {
                return message;
            }
        }
        return null;
    }

    @Override
    public boolean carry(int number, boolean kept) {
        Message message = pending(number);
        if (message == null) {
            return false;
        }
        if (!kept) {
            pending.remove(message);
        }
        boolean isFirst = last(e -> e.what == What.CAME && e.message == message) == null;
        Message known = known(message.device, message.part);
        record.add(new Event(What.CAME, now, message.device, message.part, lives[message.device], message.kind, message));
        if (message.kind == 5) {
            if (isFirst) {
                judge(message);
            }
            send(6, message.device, message.part, reason(message.part), 0, 0);
        }
        boolean isNew = known == null || message.number > known.number;
        if (message.kind == 2 && cameInItsLife(last(e -> true)) && isNew && message.value == 1) {
            send(3, message.device, 0, 0, 0, 0);
        }
        endCall();
        return true;
    }

    @Override
    public boolean drop(int number) {
        return pending.remove(pending(number));
    }

    private static boolean cameInItsLife(Event event) {
        return event.what == What.CAME && event.life == event.message.life;
    }

    private static boolean came(Event event, int kind, int device) {
        return cameInItsLife(event) && event.message.kind == kind && event.device == device;
    }

    private static boolean came(Event event, int kind, int device, int part) {
        return came(event, kind, device) && event.part == part;
    }

    // ---- time

    @Override
    public int tick(int ms) {
        if (!isWithin(ms, 1, 10000) || (long) now + ms > 1000000000) {
            throw new IllegalArgumentException();
        }
        int before = messages.size();
        now += ms;
        eachChannel((device, channel) -> {
            boolean isDue = tiedTo(device) != 0 && measured(device, channel) != null
                    && wasMeasuredSinceTied(device, channel)
                    && !wasSentWithin(1000, m -> m.kind == 1 && m.device == device && m.part == channel);
            if (isDue) {
                sendValue(device, channel);
            }
        });
        endCall();
        for (int each = 0; each < 8; each++) {
            int device = each;
            if (stationSoundsOf(device) && !wasSentWithin(1000, m -> m.kind == 3 && m.device == device)) {
                send(3, device, 0, 0, 0, 0);
            }
        }
        return messages.size() - before;
    }

    private interface Deed {
        void on(int device, int channel);
    }

    private void eachChannel(Deed deed) {
        for (int device = 0; device < 8; device++) {
            for (int channel = 0; hasChannel(device, channel); channel++) {
                deed.on(device, channel);
            }
        }
    }

    // ---- alarms at the device

    private void endCall() {
        eachChannel((device, channel) -> {
            Alarm alarm = alarmOf(device, channel);
            if (alarm == null) {
                return;
            }
            int since = conditionSince(device, channel);
            boolean is = since != NONE;
            if (!isOn(device, channel) && is && now - since >= alarm.delay) {
                note(What.BEGAN, device, channel, 0);
                send(2, device, channel, 1, 0, 0);
            } else if (isOn(device, channel) && !is && (alarm.priority != 1 || isAcknowledged(device, channel))) {
                note(What.ENDED, device, channel, 0);
                send(2, device, channel, 0, 0, 0);
            }
        });
    }

    /** Since when the condition is so, or NONE if it is not. */
    private int conditionSince(int device, int channel) {
        Event inhibited = last(e -> isOf(e, What.INHIBITED, device, channel) && isPresent(e));
        int inhibitedUntil = inhibited == null ? 0 : inhibited.time + inhibited.value;
        int aboveSince = NONE;
        for (Event event : record) {
            if (isOf(event, What.MEASURED, device, channel) && isPresent(event)) {
                boolean isAbove = event.value > alarmOf(device, channel).limit;
                aboveSince = !isAbove ? NONE : aboveSince == NONE ? event.time : aboveSince;
            }
        }
        return aboveSince == NONE || now < inhibitedUntil ? NONE : Math.max(aboveSince, inhibitedUntil);
    }

    private int beganAt(int device, int channel) {
        int at = lastAt(e -> isPresentOf(e, What.BEGAN, device, channel));
        return at > lastAt(e -> isPresentOf(e, What.ENDED, device, channel)) ? at : NONE;
    }

    private boolean isPresentOf(Event event, What what, int device, int channel) {
        return isOf(event, what, device, channel) && isPresent(event);
    }

    private boolean isOn(int device, int channel) {
        return beganAt(device, channel) != NONE;
    }

    private boolean isAcknowledged(int device, int channel) {
        return lastAt(e -> came(e, 4, device, channel)) > beganAt(device, channel);
    }

    private boolean isLoud(int device, int channel) {
        return isOn(device, channel) && !isAcknowledged(device, channel);
    }

    private boolean deviceSounds(int device) {
        boolean isHeardOf = last(e -> came(e, 3, device) && isPresent(e) && now - e.time < 3000) != null;
        boolean sounds = false;
        for (int channel = 0; hasChannel(device, channel); channel++) {
            sounds |= isLoud(device, channel);
        }
        return sounds && !isHeardOf;
    }

    private int level(int device, int channel) {
        if (!isLoud(device, channel)) {
            return NONE;
        }
        int span = 2000 * alarmOf(device, channel).priority;
        int age = now - record.get(beganAt(device, channel)).time;
        return age < span ? 0 : age < 2 * span ? 1 : age < 4 * span ? 2 : 3;
    }

    @Override
    public boolean inhibit(int device, int channel, int ms) {
        if (!isSealed(device) || !hasChannel(device, channel) || alarmOf(device, channel) == null
                || !isWithin(ms, 0, 100000)) {
            return false;
        }
        note(What.INHIBITED, device, channel, ms);
        endCall();
        return true;
    }

    // ---- alarms at the station

    /** The ALARM with the greatest number that came. */
    private Message known(int device, int channel) {
        Message greatest = null;
        for (Event event : record) {
            boolean isGreater = greatest == null || event.message != null && event.message.number > greatest.number;
            if (came(event, 2, device, channel) && isGreater) {
                greatest = event.message;
            }
        }
        return greatest;
    }

    private int standingAtStation(int device, int channel) {
        Message known = known(device, channel);
        if (known == null || known.value == 0) {
            return known == null ? 0 : 1;
        }
        int acknowledgedAt = lastAt(e -> isOf(e, What.ACKNOWLEDGED, device, channel));
        return acknowledgedAt > firstCame(known) ? 3 : 2;
    }

    private int firstCame(Message message) {
        for (int i = 0; i < record.size(); i++) {
            if (record.get(i).what == What.CAME && record.get(i).message == message) {
                return i;
            }
        }
        return NONE;
    }

    private boolean stationSoundsOf(int device) {
        for (int channel = 0; hasChannel(device, channel); channel++) {
            if (standingAtStation(device, channel) == 2) {
                return true;
            }
        }
        return false;
    }

    @Override
    public boolean acknowledge(int device, int channel) {
        if (!hasChannel(device, channel) || standingAtStation(device, channel) != 2) {
            return false;
        }
        note(What.ACKNOWLEDGED, device, channel, 0);
        send(4, device, channel, 0, 0, 0);
        return true;
    }

    // ---- displays

    @Override
    public int bind(int bed, int unit) {
        if (!isBed(bed) || !isWithin(unit, 0, 15)) {
            throw new IllegalArgumentException();
        }
        List<Handle> found = new ArrayList<>();
        eachChannel((device, channel) -> {
            boolean isIt = bed(device) == bed && isSealed(device) && tiedTo(device) != 0
                    && descriptions[device].channels.get(channel).unit == unit;
            if (isIt) {
                found.add(new Handle(device, channel, lives[device], tiedTo(device), record.size()));
            }
        });
        if (handles.size() == 16 || found.isEmpty()) {
            throw new IllegalStateException();
        }
        handles.add(found.get(0));
        return handles.size() - 1;
    }

    @Override
    public int shown(int handle, int what) {
        if (!isWithin(handle, 0, handles.size() - 1) || !isWithin(what, 0, 3)) {
            throw new IndexOutOfBoundsException();
        }
        Handle one = handles.get(handle);
        if (what >= 2) {
            return what == 2 ? one.device : one.channel;
        }
        Event heard = heard(one);
        if (heard == null || now - heard.time >= 3000) {
            throw new NoSuchElementException();
        }
        return what == 0 ? heard.message.value : now - heard.message.measured;
    }

    private Event heard(Handle handle) {
        Event heard = null;
        for (int i = handle.boundAt; i < record.size(); i++) {
            Event event = record.get(i);
            boolean isOne = came(event, 1, handle.device, handle.channel) && event.message.life == handle.life
                    && event.message.patient == handle.patient;
            if (isOne && (heard == null || event.message.number > heard.message.number)) {
                heard = event;
            }
        }
        return heard;
    }

    // ---- set-points

    private int holder(int device) {
        Event leased = last(e -> isOf(e, What.LEASED, device) && isPresent(e) && now - e.time < 10000);
        return leased == null ? NONE : leased.part;
    }

    private boolean isRemote(int device) {
        Event told = last(e -> (isOf(e, What.REMOTE, device) || isOf(e, What.LOCAL, device)) && isPresent(e));
        return told != null && told.what == What.REMOTE;
    }

    private int setting(int device) {
        return last(e -> isOf(e, What.SET, device)).value;
    }

    @Override
    public boolean lease(int controller, int device) {
        boolean can = isWithin(controller, 0, 3) && hasSetPoint(device)
                && (holder(device) == NONE || holder(device) == controller);
        if (can) {
            note(What.LEASED, device, controller, 0);
        }
        return can;
    }

    @Override
    public int order(int controller, int device, int value, int expected) {
        if (!isWithin(controller, 0, 3) || !hasSetPoint(device)) {
            throw new IllegalArgumentException();
        }
        if (orders.size() == 100) {
            throw new IllegalStateException();
        }
        orders.add(new Order(controller, device, value, expected));
        send(5, device, orders.size() - 1, 0, 0, 0);
        return orders.size() - 1;
    }

    private void judge(Message message) {
        Order order = orders.get(message.part);
        int device = order.device;
        boolean[] isRefused = {
            message.life != lives[device], holder(device) != order.controller, !isRemote(device),
            !descriptions[device].setPoint.fits(order.value), setting(device) != order.expected,
        };
        int reason = 0;
        for (int i = isRefused.length; i > 0; i--) {
            reason = isRefused[i - 1] ? i : reason;
        }
        note(What.JUDGED, device, message.part, reason);
        if (reason == 0) {
            note(What.SET, device, NONE, order.value);
        }
    }

    private int reason(int order) {
        return last(e -> e.what == What.JUDGED && e.part == order).value;
    }

    @Override
    public boolean local(int device, int value, boolean remote) {
        if (!hasSetPoint(device)) {
            return false;
        }
        if (value == NONE) {
            note(remote ? What.REMOTE : What.LOCAL, device, NONE, 0);
            return true;
        }
        if (isRemote(device) || !descriptions[device].setPoint.fits(value)) {
            return false;
        }
        note(What.SET, device, NONE, value);
        return true;
    }

    @Override
    public boolean restart(int device) {
        if (!isSealed(device)) {
            return false;
        }
        note(What.UNTIED, device, NONE, 0);
        lives[device]++;
        return true;
    }

    // ---- what can be seen

    @Override
    public int look(int device, int what) {
        if (!isDevice(device) || !isWithin(what, 0, 38) || what >= 10 && (what - 10) % 8 >= 5) {
            throw new IndexOutOfBoundsException();
        }
        if (what < 10) {
            return lookAtDevice(device, what);
        }
        int channel = (what - 10) / 8;
        return hasChannel(device, channel) ? lookAtChannel(device, channel, (what - 10) % 8) : NONE;
    }

    private int lookAtDevice(int device, int what) {
        boolean isBegun = descriptions[device] != null;
        boolean isSet = isBegun && descriptions[device].setPoint != null;
        return switch (what) {
            case 0 -> isSealed(device) ? 2 : isBegun ? 1 : 0;
            case 1 -> bed(device);
            case 2 -> lives[device];
            case 3 -> isBegun ? descriptions[device].channels.size() : 0;
            case 4 -> tiedTo(device);
            case 5 -> deviceSounds(device) ? 1 : 0;
            case 6 -> isSet ? setting(device) : NONE;
            case 7 -> holder(device);
            case 8 -> isRemote(device) ? 1 : 0;
            default -> isSet ? 1 : 0;
        };
    }

    private int lookAtChannel(int device, int channel, int fact) {
        Event value = measured(device, channel);
        int standing = !isOn(device, channel) ? 1 : isAcknowledged(device, channel) ? 3 : 2;
        return switch (fact) {
            case 0 -> alarmOf(device, channel) == null ? 0 : standing;
            case 1 -> level(device, channel);
            case 2 -> value == null ? 0 : 1;
            case 3 -> value == null ? NONE : value.value;
            default -> standingAtStation(device, channel);
        };
    }

    @Override
    public int message(int number, int what) {
        Message message = pending(number);
        if (message == null) {
            throw new NoSuchElementException();
        }
        return switch (what) {
            case 0 -> message.kind;
            case 1 -> message.device;
            case 2 -> message.part;
            case 3 -> message.life;
            case 4 -> message.value;
            default -> throw new IndexOutOfBoundsException();
        };
    }

    @Override
    public int count(int what) {
        if (what >= 300) {
            return isBed(what - 300) ? patient(what - 300) : NONE;
        }
        if (what >= 200) {
            return what - 200 < pending.size() ? pending.get(what - 200).number : NONE;
        }
        if (what >= 100) {
            return what - 100 < orders.size() ? knownOf(what - 100) : NONE;
        }
        return switch (what) {
            case 0 -> now;
            case 1 -> messages.size();
            case 2 -> pending.size();
            case 3 -> (int) messages.stream().filter(Message::lost).count();
            case 4 -> handles.size();
            case 5 -> orders.size();
            case 6 -> stationSounds() ? 1 : 0;
            default -> NONE;
        };
    }

    private int knownOf(int order) {
        Event came = last(e -> e.what == What.CAME && e.message.kind == 6 && e.part == order);
        return came == null ? 0 : 1 + came.message.value;
    }

    private boolean stationSounds() {
        boolean sounds = false;
        for (int device = 0; device < 8; device++) {
            sounds |= stationSoundsOf(device);
        }
        return sounds;
    }
}
