/** Objects for the tests, made up to where a test begins. */
final class Made {
    private static final int LONGEST_PASS = 3000;

    private Made() {
    }

    /** An object with these many devices of the user 0, in the zone 0. */
    static PushNotices withDevices(int count) {
        PushNotices x = new PushNotices();
        for (int device = 0; device < count; device++) {
            x.addDevice(0, 0);
        }
        return x;
    }

    /** An object with one device for each of the users 0 to 7: the device's number is the user's. */
    static PushNotices withAllUsers() {
        PushNotices x = new PushNotices();
        for (int user = 0; user < 8; user++) {
            x.addDevice(user, 0);
        }
        return x;
    }

    /** An object with one device for each of the topics 0 to 5: the device's number is the topic's. */
    static PushNotices withAllTopics() {
        PushNotices x = withDevices(6);
        for (int topic = 0; topic < 6; topic++) {
            x.join(topic, topic, true);
        }
        return x;
    }

    /** An object with a device of the user 0 and these many notices, all delivered to it. */
    static PushNotices withNotices(int count) {
        PushNotices x = withDevices(1);
        for (int notice = 0; notice < count; notice++) {
            x.send(0, PushNotices.NONE, false, 10000);
        }
        return x;
    }

    /** An object with one device in the zone 0, at a minute. */
    static PushNotices at(int minute) {
        PushNotices x = withDevices(1);
        passAll(x, minute);
        return x;
    }

    /** Lets minutes pass, more than one call may; returns how many deliveries there were. */
    static int passAll(PushNotices x, int minutes) {
        int delivered = 0;
        for (int left = minutes; left > 0; left -= LONGEST_PASS) {
            delivered += x.pass(Math.min(left, LONGEST_PASS));
        }
        return delivered;
    }
}
