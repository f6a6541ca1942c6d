import java.util.function.Supplier;

/**
 * Each call that is refused: which exception it throws, which one where several apply, and that it
 * changes nothing. The last is told by a twin, which was not called: both then go through the same long
 * story, which asks for all that can be asked and brings to light what is kept inside. An object is made
 * and goes through its story in less than 512 calls.
 */
final class RefusalsTest {
    /** A call that is to be refused. */
    private interface Refused {
        Object on(PushNotices x);
    }

    private static final int NONE = PushNotices.NONE;
    private static final int BOTH = PushNotices.BOTH;
    private static final int ANY = PushNotices.ANY;
    private static final int BUT = PushNotices.BUT;
    private static final String ARGUMENT = "throws.IllegalArgumentException";
    private static final String INDEX = "throws.IndexOutOfBoundsException";
    private static final String STATE = "throws.IllegalStateException";
    /** Among them are those that a shift takes for the devices 0 to 4. */
    private static final int[] NO_DEVICE = {
        -1, 5, 16, 31, 32, 33, 34, 35, 36, 37, Integer.MIN_VALUE, Integer.MAX_VALUE
    };
    private static final int[] NO_NOTICE = {-1, 9, 120, Integer.MIN_VALUE, Integer.MAX_VALUE};
    private static final Checks CHECKS = new Checks("RefusalsTest");

    public static void main(String[] args) {
        addDevice();
        addDeviceWhenFull();
        setOnlineAndDozing();
        setQuiet();
        setQuietListsTheDeviceFirst();
        join();
        joinListsTheDeviceFirst();
        kill();
        killOfTheDead();
        askDevices();
        send();
        sendWhenFull();
        sendListsArgumentsFirst();
        sendBy();
        sendByWhenFull();
        sendByListsArgumentsFirst();
        readOfNoDeviceOrNotice();
        readOfWhatIsNotThere();
        readListsNumbersFirst();
        askNotices();
        standing();
        pass();
        passAtTheEnd();
        passListsTheArgumentFirst();
        refusesOnNewObjects();
        CHECKS.end();
    }

    private static void refused(Supplier<PushNotices> made, String what, String due, Refused call) {
        PushNotices x = made.get();
        CHECKS.same(what, due, Checks.outcome(() -> call.on(x)));
        CHECKS.same(what + " changes nothing", storyOf(made.get()), storyOf(x));
    }

    private static void inUse(String what, String due, Refused call) {
        refused(RefusalsTest::inUse, what, due, call);
    }

    private static void full(String what, String due, Refused call) {
        refused(RefusalsTest::full, what, due, call);
    }

    private static void atTheEnd(String what, String due, Refused call) {
        refused(RefusalsTest::atTheEnd, what, due, call);
    }

    // Objects on which calls are refused.

    /** Five devices: one awake, one offline, one dozing, one in its quiet hours, one dead; nine notices. */
    private static PushNotices inUse() {
        PushNotices x = new PushNotices();
        x.addDevice(0, 0);
        x.addDevice(0, -720);
        x.addDevice(1, 840);
        x.addDevice(1, 60);
        x.addDevice(0, 30);
        x.pass(30);
        x.setOnline(1, false);
        x.setDozing(2, true);
        x.setQuiet(3, 80, 700);
        x.setQuiet(0, 900, 1000);
        x.join(0, 0, true);
        x.join(2, 0, true);
        x.join(3, 0, true);
        x.join(1, 5, true);
        x.join(2, 5, true);
        sendNine(x);
        return x;
    }

    private static void sendNine(PushNotices x) {
        x.send(0, 3, false, 500);
        x.kill(4);
        x.send(1, 3, false, 500);
        x.send(1, NONE, true, 500);
        x.send(0, 9, false, 1);
        x.pass(1);
        x.send(0, 4, true, 300);
        x.send(0, 4, true, 300);
        x.sendBy(ANY, 0, 5, false, 2000);
        x.send(0, NONE, false, 300);
        x.read(0, 7);
        x.send(0, NONE, true, 10000);
    }

    /** 16 devices, of which the last one is offline, and 120 notices, of which some have keys. */
    private static PushNotices full() {
        PushNotices x = new PushNotices();
        for (int device = 0; device < 16; device++) {
            x.addDevice(device % 4, 0);
        }
        x.setOnline(15, false);
        x.setDozing(14, true);
        x.join(3, 0, true);
        for (int notice = 0; notice < 120; notice++) {
            x.send(notice % 4, notice < 8 ? notice : NONE, notice % 3 == 0, 100 + notice);
        }
        return x;
    }

    /** Ten minutes before the clock's end, with a notice that waits for a window, and one that is delivered. */
    private static PushNotices atTheEnd() {
        PushNotices x = Made.at(99959);
        x.setDozing(0, true);
        x.addDevice(0, 0);
        x.send(0, 2, false, 30);
        x.send(0, NONE, false, 10000);
        x.setQuiet(1, 639, 680);
        x.send(0, NONE, false, 500);
        return x;
    }

    // The story that brings a change to light.

    private static String storyOf(PushNotices x) {
        StringBuilder story = new StringBuilder();
        tellNumbers(story, x);
        tellDevices(story, x);
        tellNotices(story, x);
        tellKeys(story, x);
        passSomeTime(story, x);
        tellDevices(story, x);
        sendMore(story, x);
        leaveTopics(story, x);
        openDevices(story, x);
        tellNumbers(story, x);
        killAll(story, x);
        return story.toString();
    }

    private static void tell(StringBuilder story, Checks.Call call) {
        story.append(Checks.outcome(call)).append(' ');
    }

    private static void tellNumbers(StringBuilder story, PushNotices x) {
        story.append("\n  numbers: ");
        tell(story, x::devices);
        tell(story, x::sent);
        tell(story, x::clock);
        tell(story, x::deliveries);
    }

    private static void tellDevices(StringBuilder story, PushNotices x) {
        story.append("\n  devices: ");
        int devices = x.devices();
        for (int device = 0; device < devices; device++) {
            int number = device;
            tell(story, () -> x.isQuiet(number));
            tell(story, () -> x.badge(number));
            tell(story, () -> x.waiting(number));
            tell(story, () -> x.quota(number));
        }
    }

    private static void tellNotices(StringBuilder story, PushNotices x) {
        story.append("\n  notices: ");
        int sent = x.sent();
        for (int notice = 0; notice < sent; notice += sent > 20 ? 7 : 1) {
            int number = notice;
            tell(story, () -> x.stands(number));
            tell(story, () -> x.waitsFor(number));
            tell(story, () -> x.deliveredTo(number));
        }
    }

    private static void tellKeys(StringBuilder story, PushNotices x) {
        story.append("\n  keys: ");
        for (int user = 0; user < 2; user++) {
            for (int key = 0; key < 10; key++) {
                story.append(x.standing(user, key)).append(' ');
            }
        }
    }

    private static void passSomeTime(StringBuilder story, PushNotices x) {
        story.append("\n  time: ");
        int step = x.clock() < 99000 ? 119 : 3;
        for (int passed = 0; passed < 13; passed++) {
            tell(story, () -> x.pass(step));
            tell(story, () -> x.isQuiet(0));
            tell(story, () -> x.isQuiet(3));
        }
    }

    /** It is no minute of a window, so what comes tells who is online, awake and open. */
    private static void sendMore(StringBuilder story, PushNotices x) {
        story.append("\n  more: ");
        tell(story, () -> x.addDevice(0, 0));
        for (int user = 0; user < 8; user++) {
            int ofUser = user;
            tell(story, () -> x.deliveredTo(x.send(ofUser, NONE, false, 5)));
            tell(story, () -> x.deliveredTo(x.send(ofUser, NONE, true, 5)));
        }
        tell(story, () -> x.deliveredTo(x.sendBy(ANY, 0, 5, true, 5)));
    }

    private static void leaveTopics(StringBuilder story, PushNotices x) {
        story.append("\n  topics: ");
        int devices = Math.min(3, x.devices());
        for (int device = 0; device < devices; device++) {
            for (int topic = 0; topic < 6; topic++) {
                int number = device;
                int left = topic;
                tell(story, () -> x.join(number, left, false));
                tell(story, () -> x.join(number, left, true));
            }
        }
    }

    private static void openDevices(StringBuilder story, PushNotices x) {
        story.append("\n  opened: ");
        int devices = x.devices();
        for (int device = 0; device < devices; device++) {
            int number = device;
            tell(story, () -> x.setDozing(number, false));
            tell(story, () -> x.setOnline(number, true));
        }
    }

    private static void killAll(StringBuilder story, PushNotices x) {
        story.append("\n  killed: ");
        int devices = x.devices();
        for (int device = 0; device < devices; device++) {
            int number = device;
            tell(story, () -> x.kill(number));
        }
    }

    // Promises 2 to 9 and 18 to 20: devices.

    private static void addDevice() {
        CHECKS.about("2: IllegalArgumentException if an argument is out of range");
        inUse("user -1", ARGUMENT, x -> x.addDevice(-1, 0));
        inUse("user 8", ARGUMENT, x -> x.addDevice(8, 0));
        inUse("offset -721", ARGUMENT, x -> x.addDevice(0, -721));
        inUse("offset 841", ARGUMENT, x -> x.addDevice(0, 841));
        inUse("both", ARGUMENT, x -> x.addDevice(8, 841));
    }

    private static void addDeviceWhenFull() {
        CHECKS.about("2: IllegalStateException if there are 16; the arguments are listed first");
        full("a 17th device", STATE, x -> x.addDevice(0, 0));
        full("a 17th device, at the upper ends", STATE, x -> x.addDevice(7, 840));
        full("user -1 and a 17th", ARGUMENT, x -> x.addDevice(-1, 0));
        full("user 8 and a 17th", ARGUMENT, x -> x.addDevice(8, 0));
        full("offset -721 and a 17th", ARGUMENT, x -> x.addDevice(0, -721));
        full("offset 841 and a 17th", ARGUMENT, x -> x.addDevice(0, 841));
    }

    private static void setOnlineAndDozing() {
        CHECKS.about("3, 4: IndexOutOfBoundsException if there is no such device");
        for (int device : NO_DEVICE) {
            inUse("online " + device, INDEX, x -> x.setOnline(device, true));
            inUse("offline " + device, INDEX, x -> x.setOnline(device, false));
            inUse("dozing " + device, INDEX, x -> x.setDozing(device, true));
            inUse("awake " + device, INDEX, x -> x.setDozing(device, false));
        }
        full("online 16", INDEX, x -> x.setOnline(16, true));
        full("awake 16", INDEX, x -> x.setDozing(16, false));
    }

    private static void setQuiet() {
        CHECKS.about("5: IllegalArgumentException if from or to is out of range");
        for (int device = 0; device < 5; device++) {
            int number = device;
            inUse("from -1, device " + device, ARGUMENT, x -> x.setQuiet(number, -1, 5));
            inUse("from 1440, device " + device, ARGUMENT, x -> x.setQuiet(number, 1440, 5));
            inUse("to -1, device " + device, ARGUMENT, x -> x.setQuiet(number, 5, -1));
            inUse("to 1440, device " + device, ARGUMENT, x -> x.setQuiet(number, 5, 1440));
            inUse("both, device " + device, ARGUMENT, x -> x.setQuiet(number, -1, 1440));
            inUse("both the same, device " + device, ARGUMENT, x -> x.setQuiet(number, 1440, 1440));
        }
    }

    private static void setQuietListsTheDeviceFirst() {
        CHECKS.about("5: IndexOutOfBoundsException if there is no such device; it is listed first");
        for (int device : NO_DEVICE) {
            inUse("device " + device, INDEX, x -> x.setQuiet(device, 0, 5));
            inUse("device and from, " + device, INDEX, x -> x.setQuiet(device, -1, 5));
            inUse("device and to, " + device, INDEX, x -> x.setQuiet(device, 5, 1440));
            inUse("all, " + device, INDEX, x -> x.setQuiet(device, 1440, -1));
        }
    }

    private static void join() {
        CHECKS.about("6: IllegalArgumentException if topic is out of range");
        for (int device = 0; device < 5; device++) {
            int number = device;
            inUse("joins -1, device " + device, ARGUMENT, x -> x.join(number, -1, true));
            inUse("joins 6, device " + device, ARGUMENT, x -> x.join(number, 6, true));
            inUse("leaves -1, device " + device, ARGUMENT, x -> x.join(number, -1, false));
            inUse("leaves 6, device " + device, ARGUMENT, x -> x.join(number, 6, false));
        }
    }

    private static void joinListsTheDeviceFirst() {
        CHECKS.about("6: IndexOutOfBoundsException if there is no such device; it is listed first");
        for (int device : NO_DEVICE) {
            inUse("device " + device, INDEX, x -> x.join(device, 0, true));
            inUse("device leaves, " + device, INDEX, x -> x.join(device, 0, false));
            inUse("device and topic -1, " + device, INDEX, x -> x.join(device, -1, true));
            inUse("device and topic 6, " + device, INDEX, x -> x.join(device, 6, false));
        }
    }

    private static void kill() {
        CHECKS.about("7: IndexOutOfBoundsException if there is no such device");
        for (int device : NO_DEVICE) {
            inUse("device " + device, INDEX, x -> x.kill(device));
        }
        full("device 16", INDEX, x -> x.kill(16));
    }

    private static void killOfTheDead() {
        CHECKS.about("7: IllegalStateException if its token is dead");
        inUse("a dead one", STATE, x -> x.kill(4));
        inUse("a dead one, twice", STATE + " " + STATE,
                x -> Checks.outcome(() -> x.kill(4)) + " " + Checks.outcome(() -> x.kill(4)));
    }

    private static void askDevices() {
        CHECKS.about("9, 18, 19, 20: IndexOutOfBoundsException if there is no such device");
        for (int device : NO_DEVICE) {
            inUse("isQuiet " + device, INDEX, x -> x.isQuiet(device));
            inUse("badge " + device, INDEX, x -> x.badge(device));
            inUse("waiting " + device, INDEX, x -> x.waiting(device));
            inUse("quota " + device, INDEX, x -> x.quota(device));
        }
    }

    // Promises 10 to 12 and 14 to 17: notices.

    private static void send() {
        CHECKS.about("10: IllegalArgumentException if user, key or lifetime is out of range");
        for (boolean isHigh : new boolean[] {false, true}) {
            inUse("user -1", ARGUMENT, x -> x.send(-1, 3, isHigh, 5));
            inUse("user 8", ARGUMENT, x -> x.send(8, 3, isHigh, 5));
            inUse("key -2", ARGUMENT, x -> x.send(0, -2, isHigh, 5));
            inUse("key 10", ARGUMENT, x -> x.send(0, 10, isHigh, 5));
            inUse("lifetime 0", ARGUMENT, x -> x.send(0, 3, isHigh, 0));
            inUse("lifetime -1", ARGUMENT, x -> x.send(1, 3, isHigh, -1));
            inUse("lifetime 10001", ARGUMENT, x -> x.send(0, 3, isHigh, 10001));
            inUse("all", ARGUMENT, x -> x.send(8, 10, isHigh, 10001));
        }
    }

    private static void sendWhenFull() {
        CHECKS.about("10: IllegalStateException if 120 have been sent");
        full("without a key", STATE, x -> x.send(0, NONE, false, 5));
        full("high", STATE, x -> x.send(3, NONE, true, 5));
        full("with a key that would replace", STATE, x -> x.send(0, 0, false, 5));
        full("with another key that would replace", STATE, x -> x.send(3, 7, true, 10000));
        full("with a key that is free", STATE, x -> x.send(0, 9, false, 5));
    }

    private static void sendListsArgumentsFirst() {
        CHECKS.about("10: if several apply, the one that it lists first is thrown");
        full("user -1 and a 121st", ARGUMENT, x -> x.send(-1, 0, false, 5));
        full("user 8 and a 121st", ARGUMENT, x -> x.send(8, 0, false, 5));
        full("key -2 and a 121st", ARGUMENT, x -> x.send(0, -2, false, 5));
        full("key 10 and a 121st", ARGUMENT, x -> x.send(0, 10, false, 5));
        full("lifetime 0 and a 121st", ARGUMENT, x -> x.send(0, 0, false, 0));
        full("lifetime 10001 and a 121st", ARGUMENT, x -> x.send(0, 0, false, 10001));
    }

    private static void sendBy() {
        CHECKS.about("11: IllegalArgumentException if condition, first, second or lifetime is out of range");
        for (boolean isHigh : new boolean[] {false, true}) {
            inUse("condition -1", ARGUMENT, x -> x.sendBy(-1, 0, 5, isHigh, 5));
            inUse("condition 3", ARGUMENT, x -> x.sendBy(3, 0, 5, isHigh, 5));
            inUse("first -1", ARGUMENT, x -> x.sendBy(BOTH, -1, 5, isHigh, 5));
            inUse("first 6", ARGUMENT, x -> x.sendBy(ANY, 6, 5, isHigh, 5));
            inUse("second -1", ARGUMENT, x -> x.sendBy(BUT, 0, -1, isHigh, 5));
            inUse("second 6", ARGUMENT, x -> x.sendBy(ANY, 0, 6, isHigh, 5));
            inUse("lifetime 0", ARGUMENT, x -> x.sendBy(ANY, 0, 5, isHigh, 0));
            inUse("lifetime 10001", ARGUMENT, x -> x.sendBy(ANY, 0, 5, isHigh, 10001));
            inUse("all", ARGUMENT, x -> x.sendBy(3, 6, 6, isHigh, 0));
        }
    }

    private static void sendByWhenFull() {
        CHECKS.about("11: IllegalStateException if 120 have been sent");
        for (int condition = BOTH; condition <= BUT; condition++) {
            int by = condition;
            full("condition " + condition, STATE, x -> x.sendBy(by, 0, 1, true, 5));
        }
    }

    private static void sendByListsArgumentsFirst() {
        CHECKS.about("11: if several apply, the one that it lists first is thrown");
        full("condition -1 and a 121st", ARGUMENT, x -> x.sendBy(-1, 0, 0, false, 5));
        full("condition 3 and a 121st", ARGUMENT, x -> x.sendBy(3, 0, 0, false, 5));
        full("first -1 and a 121st", ARGUMENT, x -> x.sendBy(ANY, -1, 0, false, 5));
        full("first 6 and a 121st", ARGUMENT, x -> x.sendBy(ANY, 6, 0, false, 5));
        full("second -1 and a 121st", ARGUMENT, x -> x.sendBy(ANY, 0, -1, false, 5));
        full("second 6 and a 121st", ARGUMENT, x -> x.sendBy(ANY, 0, 6, false, 5));
        full("lifetime 0 and a 121st", ARGUMENT, x -> x.sendBy(ANY, 0, 0, false, 0));
        full("lifetime 10001 and a 121st", ARGUMENT, x -> x.sendBy(ANY, 0, 0, false, 10001));
    }

    private static void readOfNoDeviceOrNotice() {
        CHECKS.about("12: IndexOutOfBoundsException if there is no such device or notice");
        for (int device : NO_DEVICE) {
            inUse("device " + device, INDEX, x -> x.read(device, 0));
        }
        for (int notice : NO_NOTICE) {
            inUse("notice " + notice, INDEX, x -> x.read(0, notice));
        }
        inUse("neither", INDEX, x -> x.read(5, 9));
    }

    private static void readOfWhatIsNotThere() {
        CHECKS.about("12: IllegalStateException if it was not delivered to the device, or does not stand any more");
        inUse("it waits for the device", STATE, x -> x.read(1, 0));
        inUse("it was not sent to the device", STATE, x -> x.read(2, 0));
        inUse("it has fallen", STATE, x -> x.read(0, 3));
        inUse("it was replaced", STATE, x -> x.read(0, 4));
        inUse("it was read", STATE, x -> x.read(0, 7));
        inUse("it was read elsewhere, and had waited", STATE, x -> x.read(1, 7));
        inUse("the dead device was not to have it", STATE, x -> x.read(4, 5));
    }

    private static void readListsNumbersFirst() {
        CHECKS.about("12: if several apply, the one that it lists first is thrown");
        inUse("no device, and it has fallen", INDEX, x -> x.read(5, 3));
        inUse("no device, and it was read", INDEX, x -> x.read(-1, 7));
        inUse("no notice, on a dead device", INDEX, x -> x.read(4, 9));
    }

    private static void askNotices() {
        CHECKS.about("14, 15, 16: IndexOutOfBoundsException if there is no such notice");
        for (int notice : NO_NOTICE) {
            inUse("stands " + notice, INDEX, x -> x.stands(notice));
            inUse("waitsFor " + notice, INDEX, x -> x.waitsFor(notice));
            inUse("deliveredTo " + notice, INDEX, x -> x.deliveredTo(notice));
        }
    }

    private static void standing() {
        CHECKS.about("17: IllegalArgumentException if an argument is out of range");
        inUse("user -1", ARGUMENT, x -> x.standing(-1, 3));
        inUse("user 8", ARGUMENT, x -> x.standing(8, 3));
        inUse("key NONE", ARGUMENT, x -> x.standing(0, NONE));
        inUse("key NONE of the user 1, the place of the key 9 of the user 0", ARGUMENT, x -> x.standing(1, NONE));
        inUse("key 10", ARGUMENT, x -> x.standing(0, 10));
        inUse("both", ARGUMENT, x -> x.standing(8, 10));
    }

    // Promise 21: time.

    private static void pass() {
        CHECKS.about("21: IllegalArgumentException if minutes is out of range");
        for (int minutes : new int[] {0, -1, 3001, Integer.MIN_VALUE, Integer.MAX_VALUE}) {
            inUse("minutes " + minutes, ARGUMENT, x -> x.pass(minutes));
        }
    }

    private static void passAtTheEnd() {
        CHECKS.about("21: IllegalStateException if the clock would be above 100000; no minute passes");
        atTheEnd("one above", STATE, x -> x.pass(42));
        atTheEnd("far above", STATE, x -> x.pass(3000));
    }

    private static void passListsTheArgumentFirst() {
        CHECKS.about("21: if several apply, the one that it lists first is thrown");
        atTheEnd("3001 minutes, above the end as well", ARGUMENT, x -> x.pass(3001));
        atTheEnd("the most minutes, above the end as well", ARGUMENT, x -> x.pass(Integer.MAX_VALUE));
    }

    // Promise 1: a new object.

    private static void refusesOnNewObjects() {
        CHECKS.about("A call that throws changes nothing; a new object stays new");
        refused(PushNotices::new, "addDevice", ARGUMENT, x -> x.addDevice(8, 0));
        refused(PushNotices::new, "setOnline", INDEX, x -> x.setOnline(0, false));
        refused(PushNotices::new, "setDozing", INDEX, x -> x.setDozing(0, true));
        refused(PushNotices::new, "setQuiet", INDEX, x -> x.setQuiet(0, 0, 5));
        refused(PushNotices::new, "join", INDEX, x -> x.join(0, 0, true));
        refused(PushNotices::new, "kill", INDEX, x -> x.kill(0));
        refused(PushNotices::new, "send", ARGUMENT, x -> x.send(0, 0, true, 0));
        refused(PushNotices::new, "sendBy", ARGUMENT, x -> x.sendBy(BOTH, 0, 0, true, 0));
        refused(PushNotices::new, "read", INDEX, x -> x.read(0, 0));
        refused(PushNotices::new, "pass", ARGUMENT, x -> x.pass(0));
    }
}
