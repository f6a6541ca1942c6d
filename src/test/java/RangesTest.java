/**
 * Each argument one below its range, at its lower end, at its upper end and one above it, and at the
 * ends of int; each number of a device or a notice likewise, with one, two and the most of them.
 */
final class RangesTest {
    /** A call on an object of its own, with the argument that is tried. */
    private interface Trial {
        Object answer(int value);
    }

    /** The same, on an object with these many devices or notices. */
    private interface NumberTrial {
        Object answer(int count, int number);
    }

    private static final int NONE = PushNotices.NONE;
    private static final int BOTH = PushNotices.BOTH;
    private static final int ANY = PushNotices.ANY;
    private static final int BUT = PushNotices.BUT;
    private static final int DAY = 1440;
    private static final String ARGUMENT = "throws.IllegalArgumentException";
    private static final String INDEX = "throws.IndexOutOfBoundsException";
    private static final Checks CHECKS = new Checks("RangesTest");

    public static void main(String[] args) {
        userOfAddDevice();
        offsetOfAddDevice();
        fromOfSetQuiet();
        toOfSetQuiet();
        topicOfJoin();
        userOfSend();
        keyOfSend();
        lifetimeOfSend();
        conditionOfSendBy();
        firstOfSendBy();
        secondOfSendBy();
        secondThatIsTheFirst();
        lifetimeOfSendBy();
        userOfStanding();
        keyOfStanding();
        minutesOfPass();
        devicesThatAreSet();
        devicesThatAreAsked();
        deviceOfRead();
        noticeOfRead();
        noticesThatAreAsked();
        CHECKS.end();
    }

    private static void range(String sentence, int least, int most, Object due, Trial trial) {
        CHECKS.about(sentence);
        attempt("one below", least - 1, ARGUMENT, trial);
        attempt("the lower end", least, due, trial);
        attempt("above the lower end", least + 1, due, trial);
        attempt("below the upper end", most - 1, due, trial);
        attempt("the upper end", most, due, trial);
        attempt("one above", most + 1, ARGUMENT, trial);
        attempt("the least int", Integer.MIN_VALUE, ARGUMENT, trial);
        attempt("the greatest int", Integer.MAX_VALUE, ARGUMENT, trial);
    }

    private static void attempt(String place, int value, Object due, Trial trial) {
        CHECKS.same(place + ", " + value, due, Checks.outcome(() -> trial.answer(value)));
    }

    private static void numbers(String sentence, int most, Object due, NumberTrial trial) {
        CHECKS.about(sentence);
        for (int count : new int[] {0, 1, 2, most}) {
            Trial ofCount = number -> trial.answer(count, number);
            String of = " of " + count;
            attempt("one below the first" + of, -1, INDEX, ofCount);
            for (int number = 0; number < count; number++) {
                attempt("one" + of, number, due, ofCount);
            }
            attempt("one behind the last" + of, count, INDEX, ofCount);
            attempt("the least int" + of, Integer.MIN_VALUE, INDEX, ofCount);
            attempt("the greatest int" + of, Integer.MAX_VALUE, INDEX, ofCount);
        }
    }

    private static void ofDevices(String promise, Object due, NumberTrial trial) {
        numbers(promise + ": if there is no such device", 16, due, trial);
    }

    private static void ofNotices(String promise, Object due, NumberTrial trial) {
        numbers(promise + ": if there is no such notice", 120, due, trial);
    }

    // Promise 2

    private static void userOfAddDevice() {
        range("2: user: 0 to 7", 0, 7, 1, user -> {
            PushNotices x = new PushNotices();
            x.addDevice(user, 0);
            return x.deliveredTo(x.send(user, NONE, false, 1));
        });
    }

    private static void offsetOfAddDevice() {
        range("2: offset: -720 to 840", -720, 840, true, offset -> {
            PushNotices x = new PushNotices();
            x.addDevice(0, offset);
            int local = Math.floorMod(offset, DAY);
            x.setQuiet(0, local, (local + 1) % DAY);
            return x.isQuiet(0);
        });
    }

    // Promises 5 and 6

    private static void fromOfSetQuiet() {
        range("5: from: 0 to 1439", 0, 1439, true, from -> {
            PushNotices x = Made.at(Math.floorMod(from, DAY));
            x.setQuiet(0, from, 700);
            return x.isQuiet(0);
        });
    }

    private static void toOfSetQuiet() {
        range("5: to: 0 to 1439", 0, 1439, true, to -> {
            PushNotices x = Made.at(Math.floorMod(to - 1, DAY));
            x.setQuiet(0, 700, to);
            return x.isQuiet(0);
        });
    }

    private static void topicOfJoin() {
        range("6: topic: 0 to 5", 0, 5, "false true 1", topic -> {
            PushNotices x = Made.withDevices(1);
            boolean before = x.join(0, topic, true);
            boolean then = x.join(0, topic, true);
            return before + " " + then + " " + x.deliveredTo(x.sendBy(ANY, topic, topic, false, 1));
        });
        range("6: topic: 0 to 5, when it is left", 0, 5, false, topic -> Made.withDevices(1).join(0, topic, false));
    }

    // Promise 10

    private static void userOfSend() {
        range("10: user: 0 to 7", 0, 7, true, user -> {
            PushNotices x = Made.withAllUsers();
            return x.deliveredTo(x.send(user, NONE, false, 1)) == 1 << user;
        });
    }

    private static void keyOfSend() {
        range("10: key: 0 to 9, or NONE", NONE, 9, true, key -> {
            PushNotices x = Made.withDevices(1);
            x.send(0, key, false, 5);
            boolean isFirstDue = key == NONE || x.standing(0, key) == 0;
            x.send(0, key, false, 5);
            boolean isSecondDue = key == NONE || x.standing(0, key) == 1;
            return isFirstDue && isSecondDue && x.stands(0) == (key == NONE);
        });
    }

    private static void lifetimeOfSend() {
        range("10: lifetime: 1 to 10000", 1, 10000, "true false", lifetime -> {
            PushNotices x = Made.withDevices(1);
            x.send(0, NONE, false, lifetime);
            return standsBeforeAndAtItsEnd(x, lifetime);
        });
    }

    private static String standsBeforeAndAtItsEnd(PushNotices x, int lifetime) {
        Made.passAll(x, lifetime - 1);
        boolean before = x.stands(0);
        x.pass(1);
        return before + " " + x.stands(0);
    }

    // Promise 11

    private static void conditionOfSendBy() {
        range("11: condition: BOTH, ANY or BUT", BOTH, BUT, true, condition -> {
            PushNotices x = Made.withAllTopics();
            int due = condition == BOTH ? 0 : condition == ANY ? 3 : 1;
            return x.deliveredTo(x.sendBy(condition, 0, 1, false, 1)) == due;
        });
    }

    private static void firstOfSendBy() {
        range("11: first: 0 to 5", 0, 5, true, first -> {
            PushNotices x = Made.withAllTopics();
            return x.deliveredTo(x.sendBy(ANY, first, 2, false, 1)) == (1 << first | 1 << 2);
        });
    }

    private static void secondOfSendBy() {
        range("11: second: 0 to 5, which can be the same one", 0, 5, true, second -> {
            PushNotices x = Made.withAllTopics();
            return x.deliveredTo(x.sendBy(ANY, 5, second, false, 1)) == (1 << 5 | 1 << second);
        });
    }

    private static void secondThatIsTheFirst() {
        range("11: second: 0 to 5, which can be the same one", 0, 5, "1 1 0", topic -> {
            PushNotices x = Made.withDevices(2);
            x.join(0, topic, true);
            x.join(1, (topic + 1) % 6, true);
            return x.deliveredTo(x.sendBy(BOTH, topic, topic, false, 1)) + " "
                    + x.deliveredTo(x.sendBy(ANY, topic, topic, false, 1)) + " "
                    + x.deliveredTo(x.sendBy(BUT, topic, topic, false, 1));
        });
    }

    private static void lifetimeOfSendBy() {
        range("11: lifetime: 1 to 10000", 1, 10000, "true false", lifetime -> {
            PushNotices x = Made.withDevices(1);
            x.sendBy(ANY, 0, 0, false, lifetime);
            return standsBeforeAndAtItsEnd(x, lifetime);
        });
    }

    // Promise 17

    private static void userOfStanding() {
        range("17: user: 0 to 7", 0, 7, true, user -> {
            PushNotices x = new PushNotices();
            for (int sent = 0; sent < 8; sent++) {
                x.send(sent, 4, false, 5);
            }
            return x.standing(user, 4) == user && x.standing(user, 5) == NONE;
        });
    }

    private static void keyOfStanding() {
        range("17: key: 0 to 9", 0, 9, true, key -> {
            PushNotices x = new PushNotices();
            for (int sent = 0; sent < 10; sent++) {
                x.send(7, sent, false, 5);
            }
            return x.standing(7, key) == key && x.standing(6, key) == NONE;
        });
    }

    // Promise 21

    private static void minutesOfPass() {
        range("21: minutes: 1 to 3000", 1, 3000, true, minutes -> {
            PushNotices x = new PushNotices();
            x.pass(minutes);
            return x.clock() == minutes;
        });
    }

    // Devices by their numbers: promises 3 to 7, 9, 12, 18 to 20

    private static void devicesThatAreSet() {
        ofDevices("3", "0 true", (count, device) -> {
            PushNotices x = Made.withDevices(count);
            int delivered = x.setOnline(device, false);
            return delivered + " " + (x.waitsFor(x.send(0, NONE, false, 1)) == 1 << device);
        });
        ofDevices("4", "0 true", (count, device) -> {
            PushNotices x = Made.withDevices(count);
            int delivered = x.setDozing(device, true);
            x.pass(1);
            return delivered + " " + (x.waitsFor(x.send(0, NONE, false, 1)) == 1 << device);
        });
        ofDevices("5", "0 true", (count, device) -> {
            PushNotices x = Made.withDevices(count);
            int delivered = x.setQuiet(device, 0, 1);
            return delivered + " " + (x.waitsFor(x.send(0, NONE, false, 1)) == 1 << device);
        });
        ofDevices("6", "false true", (count, device) -> {
            PushNotices x = Made.withDevices(count);
            boolean had = x.join(device, 0, true);
            return had + " " + (x.deliveredTo(x.sendBy(ANY, 0, 0, false, 1)) == 1 << device);
        });
        ofDevices("7", "0 true", (count, device) -> {
            PushNotices x = Made.withDevices(count);
            int waited = x.kill(device);
            return waited + " " + (x.deliveredTo(x.send(0, NONE, false, 1)) == ((1 << count) - 1 & ~(1 << device)));
        });
    }

    private static void devicesThatAreAsked() {
        ofDevices("9", "false true", (count, device) -> {
            PushNotices x = Made.withDevices(count);
            boolean before = x.isQuiet(device);
            x.setQuiet(device, 0, 1);
            return before + " " + x.isQuiet(device);
        });
        ofDevices("18", 1, (count, device) -> {
            PushNotices x = Made.withDevices(count);
            x.send(0, NONE, false, 1);
            return x.badge(device);
        });
        ofDevices("19", 1, (count, device) -> {
            PushNotices x = Made.withDevices(count);
            for (int each = 0; each < count; each++) {
                x.setOnline(each, each != device);
            }
            x.send(0, NONE, false, 1);
            return x.waiting(device);
        });
        ofDevices("20", 2, (count, device) -> {
            PushNotices x = Made.withDevices(count);
            x.quota(device);
            x.setDozing(device, true);
            x.send(0, NONE, true, 1);
            return x.quota(device);
        });
    }

    private static void deviceOfRead() {
        ofDevices("12", "0 false", (count, device) -> {
            PushNotices x = Made.withDevices(count);
            x.send(0, NONE, false, 1);
            int waited = x.read(device, 0);
            return waited + " " + x.stands(0);
        });
    }

    // Notices by their numbers: promises 12, 14 to 16

    private static void noticeOfRead() {
        ofNotices("12", "0 false", (count, notice) -> {
            PushNotices x = Made.withNotices(count);
            int waited = x.read(0, notice);
            return waited + " " + x.stands(notice);
        });
    }

    private static void noticesThatAreAsked() {
        ofNotices("14", true, (count, notice) -> Made.withNotices(count).stands(notice));
        ofNotices("15", 2, (count, notice) -> {
            PushNotices x = Made.withDevices(2);
            x.setOnline(1, false);
            for (int sent = 0; sent < count; sent++) {
                x.send(0, NONE, false, 1);
            }
            return x.waitsFor(notice);
        });
        ofNotices("16", 1, (count, notice) -> Made.withNotices(count).deliveredTo(notice));
    }
}
