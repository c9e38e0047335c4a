import java.util.NoSuchElementException;

/** Devices at beds, a station and controllers, joined by messages that may be lost, late or doubled. */
public final class BedsideNet {
    public static final int NONE = -1;

    private static final int DEVICES = 8;
    private static final int BEDS = 4;
    private static final int CHANNELS = 4;
    private static final int UNITS = 16;
    private static final int PRIORITIES = 3;
    private static final int CONTROLLERS = 4;
    private static final int DISPLAYS = 16;
    private static final int ORDERS = 100;
    private static final int PENDING = 64;

    private static final int GREATEST_NUMBER = 100000;
    private static final int LONGEST_TICK = 10000;
    private static final int LAST_TIME = 1000000000;
    private static final int VALUE_PAUSE = 1000;
    private static final int SOUNDS_PAUSE = 1000;
    private static final int SOUNDS_LAST = 3000;
    private static final int DISPLAY_LASTS = 3000;
    private static final int LEASE_LASTS = 10000;
    private static final int LEVEL_STEP = 2000;
    // Stands for "never": further back than every span above, near enough that no difference of times wraps.
    private static final int LONG_AGO = -1000000;

    private static final int NOT_BEGUN = 0;
    private static final int NOT_SEALED = 1;
    private static final int SEALED = 2;

    private static final int VALUE = 1;
    private static final int ALARM = 2;
    private static final int SOUNDS = 3;
    private static final int HEARD = 4;
    private static final int ORDER = 5;
    private static final int ANSWER = 6;

    private static final int DONE = 0;
    private static final int OTHER_LIFE = 1;
    private static final int NO_LEASE = 2;
    private static final int IS_LOCAL = 3;
    private static final int NO_FIT = 4;
    private static final int OTHER_VALUE = 5;
    private static final int NOT_JUDGED = -1;

    private static final int FIRST_CHANNEL_FACT = 10;
    private static final int CHANNEL_FACTS_STRIDE = 8;
    private static final int CHANNEL_FACTS = 5;
    private static final int MESSAGE_FACTS = 5;
    private static final int SHOWN_FACTS = 4;

    private final Device[] devices = new Device[DEVICES];
    private final int[] patients = new int[BEDS];
    private final Display[] displays = new Display[DISPLAYS];
    private final Order[] orders = new Order[ORDERS];
    private final Post post = new Post();
    // A copy, since what a message does may send another one into the slot that it leaves.
    private final Message inHand = new Message();
    private int displayCount;
    private int orderCount;
    private int time;

    public BedsideNet() {
        for (int i = 0; i < DEVICES; i++) {
            devices[i] = new Device();
        }
        for (int i = 0; i < DISPLAYS; i++) {
            displays[i] = new Display();
        }
        for (int i = 0; i < ORDERS; i++) {
            orders[i] = new Order();
        }
    }

    // ---- what a device tells of itself

    public boolean device(int device, int bed) {
        if (!isDevice(device) || !isBed(bed) || devices[device].state == SEALED) {
            return false;
        }
        devices[device].begin(bed);
        return true;
    }

    public int channel(int device, int unit, int low, int high, int step)
            throws IllegalArgumentException, IllegalStateException {
        if (!isOpen(device) || !isUnit(unit) || !isRange(low, high, step)) {
            throw new IllegalArgumentException();
        }
        Device owner = devices[device];
        if (owner.channelCount >= CHANNELS) {
            throw new IllegalStateException();
        }
        int number = owner.channelCount;
        owner.channels[number].begin(unit, low, high, step);
        owner.channelCount = number + 1;
        return number;
    }

    public boolean alarm(int device, int channel, int priority, int limit, int delay) {
        if (!isOpen(device) || !devices[device].hasChannel(channel)) {
            return false;
        }
        if (priority < 1 || priority > PRIORITIES || !isNumber(limit) || !isSpan(delay)) {
            return false;
        }
        devices[device].channels[channel].alarm.describe(priority, limit, delay);
        return true;
    }

    public boolean setPoint(int device, int low, int high, int step) {
        if (!isOpen(device) || !isRange(low, high, step)) {
            return false;
        }
        devices[device].setting.describe(low, high, step);
        return true;
    }

    public boolean seal(int device) {
        if (!isOpen(device) || devices[device].channelCount == 0) {
            return false;
        }
        devices[device].state = SEALED;
        return true;
    }

    // ---- beds and patients

    public boolean move(int device, int bed) {
        if (!isSealed(device) || !isBed(bed)) {
            return false;
        }
        devices[device].bed = bed;
        devices[device].tiedTo = 0;
        return true;
    }

    public boolean patient(int bed, int number) {
        if (!isBed(bed) || number < 0 || patients[bed] == number) {
            return false;
        }
        patients[bed] = number;
        for (int i = 0; i < DEVICES; i++) {
            if (devices[i].bed == bed) {
                devices[i].tiedTo = 0;
            }
        }
        return true;
    }

    public boolean confirm(int device) {
        if (!isSealed(device)) {
            return false;
        }
        Device owner = devices[device];
        int number = isBed(owner.bed) ? patients[owner.bed] : 0;
        if (number == 0 || owner.tiedTo != 0) {
            return false;
        }
        owner.tie(number);
        return true;
    }

    // ---- measuring and the time

    public boolean sample(int device, int channel, int value) {
        if (!isSealed(device) || devices[device].tiedTo == 0 || !devices[device].hasChannel(channel)) {
            return false;
        }
        Channel source = devices[device].channels[channel];
        if (!source.range.fits(value)) {
            return false;
        }
        source.measure(value, time);
        sendValue(device, channel);
        settleAlarms();
        return true;
    }

    public int tick(int ms) throws IllegalArgumentException {
        if (ms < 1 || ms > LONGEST_TICK || time > LAST_TIME - ms) {
            throw new IllegalArgumentException();
        }
        int sentBefore = post.sent;
        time += ms;
        repeatValues();
        settleAlarms();
        repeatSounds();
        return post.sent - sentBefore;
    }

    private void repeatValues() {
        for (int i = 0; i < DEVICES; i++) {
            for (int k = 0; k < devices[i].channelCount; k++) {
                Channel source = devices[i].channels[k];
                if (devices[i].tiedTo != 0 && source.measuredInTie && time - source.valueSentAt >= VALUE_PAUSE) {
                    sendValue(i, k);
                }
            }
        }
    }

    private void settleAlarms() {
        for (int i = 0; i < DEVICES; i++) {
            for (int k = 0; k < devices[i].channelCount; k++) {
                Alarm alarm = devices[i].channels[k].alarm;
                if (alarm.settle(time)) {
                    send(ALARM, i, k, alarm.on ? 1 : 0);
                }
            }
        }
    }

    private void repeatSounds() {
        for (int i = 0; i < DEVICES; i++) {
            if (devices[i].soundsAtStation() && time - devices[i].soundsSentAt >= SOUNDS_PAUSE) {
                sendSounds(i);
            }
        }
    }

    // ---- messages

    public boolean carry(int message, boolean kept) {
        int index = post.indexOf(message);
        if (index == NONE) {
            return false;
        }
        inHand.copy(post.slots[index]);
        if (!kept) {
            post.remove(index);
        }
        deliver();
        settleAlarms();
        return true;
    }

    public boolean drop(int message) {
        int index = post.indexOf(message);
        if (index == NONE) {
            return false;
        }
        post.remove(index);
        return true;
    }

    public int message(int number, int what) throws NoSuchElementException, IndexOutOfBoundsException {
        int index = post.indexOf(number);
        if (index == NONE) {
            throw new NoSuchElementException();
        }
        if (what < 0 || what >= MESSAGE_FACTS) {
            throw new IndexOutOfBoundsException();
        }
        return post.slots[index].fact(what);
    }

    private void send(int kind, int device, int part, int value) {
        post.send(kind, device, part, devices[device].life, value, 0, 0);
    }

    private void sendValue(int device, int channel) {
        Device owner = devices[device];
        Channel source = owner.channels[channel];
        post.send(VALUE, device, channel, owner.life, source.value, source.measuredAt, owner.tiedTo);
        source.valueSentAt = time;
    }

    private void sendSounds(int device) {
        send(SOUNDS, device, 0, 0);
        devices[device].soundsSentAt = time;
    }

    private void deliver() {
        Device owner = devices[inHand.device];
        if (inHand.kind == ORDER) {
            takeOrder(owner);
        } else if (inHand.kind == ANSWER) {
            orders[inHand.part].known = 1 + inHand.value;
        } else if (inHand.life == owner.life) {
            deliverWithinLife(owner);
        }
    }

    private void deliverWithinLife(Device owner) {
        switch (inHand.kind) {
            case VALUE:
                for (int i = 0; i < displayCount; i++) {
                    displays[i].hear(inHand, time);
                }
                break;
            case ALARM:
                learnAlarm(owner.channels[inHand.part].known);
                break;
            case SOUNDS:
                owner.soundsCameAt = time;
                break;
            case HEARD:
                owner.channels[inHand.part].alarm.hush();
                break;
            default:
                break;
        }
    }

    private void learnAlarm(Known known) {
        if (inHand.number <= known.number) {
            return;
        }
        known.learn(inHand.number, inHand.value == 1);
        if (known.on) {
            sendSounds(inHand.device);
        }
    }

    private void takeOrder(Device owner) {
        Order taken = orders[inHand.part];
        if (taken.result == NOT_JUDGED) {
            taken.result = judge(taken, owner);
            if (taken.result == DONE) {
                owner.setting.value = taken.value;
            }
        }
        send(ANSWER, inHand.device, inHand.part, taken.result);
    }

    private int judge(Order taken, Device owner) {
        if (inHand.life != owner.life) {
            return OTHER_LIFE;
        }
        if (owner.setting.holderAt(time) != taken.controller) {
            return NO_LEASE;
        }
        if (!owner.setting.remote) {
            return IS_LOCAL;
        }
        if (!owner.setting.range.fits(taken.value)) {
            return NO_FIT;
        }
        return owner.setting.value == taken.expected ? DONE : OTHER_VALUE;
    }

    // ---- displays

    public int bind(int bed, int unit) throws IllegalArgumentException, IllegalStateException {
        if (!isBed(bed) || !isUnit(unit)) {
            throw new IllegalArgumentException();
        }
        int device = leastDeviceWith(bed, unit);
        if (displayCount >= DISPLAYS || device == NONE) {
            throw new IllegalStateException();
        }
        Device owner = devices[device];
        int handle = displayCount;
        displays[handle].attach(device, owner.leastChannelWith(unit), owner.life, owner.tiedTo);
        displayCount = handle + 1;
        return handle;
    }

    public int shown(int handle, int what) throws IndexOutOfBoundsException, NoSuchElementException {
        if (handle < 0 || handle >= displayCount || what < 0 || what >= SHOWN_FACTS) {
            throw new IndexOutOfBoundsException();
        }
        Display display = displays[handle];
        if (what >= 2) {
            return what == 2 ? display.device : display.channel;
        }
        if (time - display.heardAt >= DISPLAY_LASTS) {
            throw new NoSuchElementException();
        }
        return what == 0 ? display.value : time - display.measuredAt;
    }

    private int leastDeviceWith(int bed, int unit) {
        for (int i = 0; i < DEVICES; i++) {
            // Only a sealed device can be tied.
            if (devices[i].bed == bed && devices[i].tiedTo != 0 && devices[i].leastChannelWith(unit) != NONE) {
                return i;
            }
        }
        return NONE;
    }

    // ---- alarms

    public boolean acknowledge(int device, int channel) {
        if (!isDevice(device) || !devices[device].hasChannel(channel)) {
            return false;
        }
        Known known = devices[device].channels[channel].known;
        if (!known.sounds()) {
            return false;
        }
        known.acknowledged = true;
        send(HEARD, device, channel, 0);
        return true;
    }

    public boolean inhibit(int device, int channel, int ms) {
        if (!isSealed(device) || !devices[device].hasChannel(channel) || !isSpan(ms)) {
            return false;
        }
        Alarm alarm = devices[device].channels[channel].alarm;
        if (!alarm.present) {
            return false;
        }
        alarm.inhibitedUntil = time + ms;
        settleAlarms();
        return true;
    }

    // ---- set-points

    public boolean lease(int controller, int device) {
        if (!isController(controller) || !isSettable(device)) {
            return false;
        }
        Setting setting = devices[device].setting;
        int holder = setting.holderAt(time);
        if (holder != NONE && holder != controller) {
            return false;
        }
        setting.controller = controller;
        setting.leasedAt = time;
        return true;
    }

    public int order(int controller, int device, int value, int expected)
            throws IllegalArgumentException, IllegalStateException {
        if (!isController(controller) || !isSettable(device)) {
            throw new IllegalArgumentException();
        }
        if (orderCount >= ORDERS) {
            throw new IllegalStateException();
        }
        int number = orderCount;
        orders[number].write(controller, value, expected);
        orderCount = number + 1;
        send(ORDER, device, number, 0);
        return number;
    }

    public boolean local(int device, int value, boolean remote) {
        if (!isSettable(device)) {
            return false;
        }
        Setting setting = devices[device].setting;
        if (value == NONE) {
            setting.remote = remote;
            return true;
        }
        if (setting.remote || !setting.range.fits(value)) {
            return false;
        }
        setting.value = value;
        return true;
    }

    public boolean restart(int device) {
        if (!isSealed(device)) {
            return false;
        }
        devices[device].beginLife();
        return true;
    }

    // ---- what can be seen

    public int look(int device, int what) throws IndexOutOfBoundsException {
        if (!isDevice(device) || what < 0) {
            throw new IndexOutOfBoundsException();
        }
        if (what < FIRST_CHANNEL_FACT) {
            return deviceFact(devices[device], what);
        }
        int channel = (what - FIRST_CHANNEL_FACT) / CHANNEL_FACTS_STRIDE;
        int fact = (what - FIRST_CHANNEL_FACT) % CHANNEL_FACTS_STRIDE;
        if (channel >= CHANNELS || fact >= CHANNEL_FACTS) {
            throw new IndexOutOfBoundsException();
        }
        if (!devices[device].hasChannel(channel)) {
            return NONE;
        }
        return channelFact(devices[device].channels[channel], fact);
    }

    private int deviceFact(Device owner, int what) {
        switch (what) {
            case 0:
                return owner.state;
            case 1:
                return owner.bed;
            case 2:
                return owner.life;
            case 3:
                return owner.channelCount;
            case 4:
                return owner.tiedTo;
            case 5:
                return owner.soundsAt(time) ? 1 : 0;
            case 6:
                return owner.setting.present ? owner.setting.value : NONE;
            case 7:
                return owner.setting.holderAt(time);
            case 8:
                return owner.setting.remote ? 1 : 0;
            default:
                return owner.setting.present ? 1 : 0;
        }
    }

    private int channelFact(Channel channel, int fact) {
        switch (fact) {
            case 0:
                return channel.alarm.standing();
            case 1:
                return channel.alarm.levelAt(time);
            case 2:
                return channel.hasValue ? 1 : 0;
            case 3:
                return channel.hasValue ? channel.value : NONE;
            default:
                return channel.known.standing();
        }
    }

    public int count(int what) {
        if (what >= 300) {
            return isBed(what - 300) ? patients[what - 300] : NONE;
        }
        if (what >= 200) {
            return what - 200 < post.pending ? post.slots[what - 200].number : NONE;
        }
        if (what >= 100) {
            return what - 100 < orderCount ? orders[what - 100].known : NONE;
        }
        switch (what) {
            case 0:
                return time;
            case 1:
                return post.sent;
            case 2:
                return post.pending;
            case 3:
                return post.lost;
            case 4:
                return displayCount;
            case 5:
                return orderCount;
            case 6:
                return stationSounds() ? 1 : 0;
            default:
                return NONE;
        }
    }

    private boolean stationSounds() {
        for (int i = 0; i < DEVICES; i++) {
            if (devices[i].soundsAtStation()) {
                return true;
            }
        }
        return false;
    }

    // ---- what can be

    private static boolean isDevice(int device) {
        return device >= 0 && device < DEVICES;
    }

    private static boolean isBed(int bed) {
        return bed >= 0 && bed < BEDS;
    }

    private static boolean isUnit(int unit) {
        return unit >= 0 && unit < UNITS;
    }

    private static boolean isController(int controller) {
        return controller >= 0 && controller < CONTROLLERS;
    }

    private static boolean isNumber(int number) {
        return number >= -GREATEST_NUMBER && number <= GREATEST_NUMBER;
    }

    private static boolean isSpan(int ms) {
        return ms >= 0 && ms <= GREATEST_NUMBER;
    }

    private static boolean isRange(int low, int high, int step) {
        return isNumber(low) && isNumber(high) && low <= high && step >= 1 && step <= GREATEST_NUMBER;
    }

    /** Whether a device was begun and still takes its description. */
    private boolean isOpen(int device) {
        return isDevice(device) && devices[device].state == NOT_SEALED;
    }

    private boolean isSealed(int device) {
        return isDevice(device) && devices[device].state == SEALED;
    }

    private boolean isSettable(int device) {
        return isSealed(device) && devices[device].setting.present;
    }

    private static final class Range {
        private int low;
        private int high;
        private int step = 1;

        private void set(int newLow, int newHigh, int newStep) {
            low = newLow;
            high = newHigh;
            step = newStep;
        }

        private boolean fits(int value) {
            // The bounds first: within them the difference can't wrap.
            return value >= low && value <= high && step >= 1 && (value - low) % step == 0;
        }
    }

    private static final class Device {
        private final Channel[] channels = new Channel[CHANNELS];
        private final Setting setting = new Setting();
        private int state = NOT_BEGUN;
        private int bed = NONE;
        private int life = 1;
        private int channelCount;
        private int tiedTo;
        private int soundsCameAt = LONG_AGO;
        private int soundsSentAt = LONG_AGO;

        private Device() {
            for (int k = 0; k < CHANNELS; k++) {
                channels[k] = new Channel();
            }
        }

        private void begin(int newBed) {
            state = NOT_SEALED;
            bed = newBed;
            channelCount = 0;
            setting.present = false;
        }

        private void beginLife() {
            life++;
            tiedTo = 0;
            soundsCameAt = LONG_AGO;
            setting.leasedAt = LONG_AGO;
            setting.remote = false;
            for (int k = 0; k < channelCount; k++) {
                channels[k].forget();
            }
        }

        private void tie(int number) {
            tiedTo = number;
            // What was measured before belongs to an earlier tie, even if it was at this very time.
            for (int k = 0; k < channelCount; k++) {
                channels[k].measuredInTie = false;
            }
        }

        private boolean hasChannel(int channel) {
            return channel >= 0 && channel < channelCount;
        }

        private int leastChannelWith(int unit) {
            for (int k = 0; k < channelCount; k++) {
                if (channels[k].unit == unit) {
                    return k;
                }
            }
            return NONE;
        }

        private boolean soundsAt(int now) {
            if (now - soundsCameAt < SOUNDS_LAST) {
                return false;
            }
            for (int k = 0; k < channelCount; k++) {
                if (channels[k].alarm.isLoud()) {
                    return true;
                }
            }
            return false;
        }

        private boolean soundsAtStation() {
            for (int k = 0; k < channelCount; k++) {
                if (channels[k].known.sounds()) {
                    return true;
                }
            }
            return false;
        }
    }

    private static final class Channel {
        private final Range range = new Range();
        private final Alarm alarm = new Alarm();
        private final Known known = new Known();
        private int unit;
        private boolean hasValue;
        private int value;
        private int measuredAt;
        private boolean measuredInTie;
        private int valueSentAt = LONG_AGO;

        private void begin(int newUnit, int low, int high, int step) {
            unit = newUnit;
            range.set(low, high, step);
            alarm.present = false;
        }

        private void measure(int newValue, int now) {
            hasValue = true;
            value = newValue;
            measuredAt = now;
            measuredInTie = true;
            alarm.watch(newValue, now);
        }

        private void forget() {
            hasValue = false;
            alarm.forget();
        }
    }

    /** A channel's alarm as the device has it. */
    private static final class Alarm {
        private boolean present;
        private int priority;
        private int limit;
        private int delay;
        private boolean above;
        private int aboveSince;
        private int inhibitedUntil;
        private boolean on;
        private boolean acknowledged;
        private int beganAt;

        private void describe(int newPriority, int newLimit, int newDelay) {
            present = true;
            priority = newPriority;
            limit = newLimit;
            delay = newDelay;
        }

        private void watch(int value, int now) {
            boolean isAbove = present && value > limit;
            if (isAbove && !above) {
                aboveSince = now;
            }
            above = isAbove;
        }

        private void forget() {
            above = false;
            inhibitedUntil = 0;
            on = false;
            acknowledged = false;
        }

        /** Begins or ends the alarm if that is due; whether it did so. */
        private boolean settle(int now) {
            boolean condition = above && now >= inhibitedUntil;
            if (on) {
                if (condition || (priority == 1 && !acknowledged)) {
                    return false;
                }
                on = false;
                acknowledged = false;
                return true;
            }
            if (!condition || now - Math.max(aboveSince, inhibitedUntil) < delay) {
                return false;
            }
            on = true;
            beganAt = now;
            return true;
        }

        private void hush() {
            acknowledged = on;
        }

        private boolean isLoud() {
            return on && !acknowledged;
        }

        private int standing() {
            if (!present) {
                return 0;
            }
            if (!on) {
                return 1;
            }
            return acknowledged ? 3 : 2;
        }

        private int levelAt(int now) {
            if (!isLoud()) {
                return NONE;
            }
            int span = LEVEL_STEP * priority;
            int age = now - beganAt;
            if (age < span) {
                return 0;
            }
            if (age < 2 * span) {
                return 1;
            }
            return age < 4 * span ? 2 : 3;
        }
    }

    /** What the station knows of a channel's alarm. */
    private static final class Known {
        private int number = NONE;
        private boolean on;
        private boolean acknowledged;

        private void learn(int newNumber, boolean isOn) {
            number = newNumber;
            on = isOn;
            acknowledged = false;
        }

        private boolean sounds() {
            return on && !acknowledged;
        }

        private int standing() {
            if (number == NONE) {
                return 0;
            }
            if (!on) {
                return 1;
            }
            return acknowledged ? 3 : 2;
        }
    }

    /** A device's set-point, with who may set it. */
    private static final class Setting {
        private final Range range = new Range();
        private boolean present;
        private int value;
        private boolean remote;
        private int controller = NONE;
        private int leasedAt = LONG_AGO;

        private void describe(int low, int high, int step) {
            present = true;
            range.set(low, high, step);
            value = low;
        }

        private int holderAt(int now) {
            return now - leasedAt < LEASE_LASTS ? controller : NONE;
        }
    }

    private static final class Order {
        private int controller;
        private int value;
        private int expected;
        private int result = NOT_JUDGED;
        private int known;

        private void write(int newController, int newValue, int newExpected) {
            controller = newController;
            value = newValue;
            expected = newExpected;
        }
    }

    private static final class Display {
        private int device;
        private int channel;
        private int life;
        private int patient;
        private int number = NONE;
        private int value;
        private int measuredAt;
        private int heardAt = LONG_AGO;

        private void attach(int newDevice, int newChannel, int newLife, int newPatient) {
            device = newDevice;
            channel = newChannel;
            life = newLife;
            patient = newPatient;
        }

        private void hear(Message told, int now) {
            boolean isOurs = told.device == device && told.part == channel
                    && told.life == life && told.patient == patient;
            if (isOurs && told.number > number) {
                number = told.number;
                value = told.value;
                measuredAt = told.measuredAt;
                heardAt = now;
            }
        }
    }

    private static final class Message {
        private int number;
        private int kind;
        private int device;
        private int part;
        private int life;
        private int value;
        private int measuredAt;
        private int patient;

        private void copy(Message other) {
            number = other.number;
            kind = other.kind;
            device = other.device;
            part = other.part;
            life = other.life;
            value = other.value;
            measuredAt = other.measuredAt;
            patient = other.patient;
        }

        private int fact(int what) {
            switch (what) {
                case 0:
                    return kind;
                case 1:
                    return device;
                case 2:
                    return part;
                case 3:
                    return life;
                default:
                    return value;
            }
        }
    }

    /** The pending messages by their numbers, in slots that are used again. */
    private static final class Post {
        // One slot more than may be pending, so that a message that is lost at once has a place to be written.
        private final Message[] slots = new Message[PENDING + 1];
        private int pending;
        private int sent;
        private int lost;

        private Post() {
            for (int i = 0; i <= PENDING; i++) {
                slots[i] = new Message();
            }
        }

        private void send(int kind, int device, int part, int life, int value, int measuredAt, int patient) {
            Message written = slots[pending];
            written.number = sent;
            written.kind = kind;
            written.device = device;
            written.part = part;
            written.life = life;
            written.value = value;
            written.measuredAt = measuredAt;
            written.patient = patient;
            sent++;
            if (pending < PENDING) {
                pending++;
            } else {
                lost++;
            }
        }

        private int indexOf(int number) {
            for (int i = 0; i < pending; i++) {
                if (slots[i].number == number) {
                    return i;
                }
            }
            return NONE;
        }

        private void remove(int index) {
            Message gone = slots[index];
            for (int i = index + 1; i < pending; i++) {
                slots[i - 1] = slots[i];
            }
            pending--;
            slots[pending] = gone;
        }
    }
}
