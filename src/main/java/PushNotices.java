/**
 * A push notice service: devices of users, notices with keys that replace one another, priorities,
 * lifetimes, quiet hours by zone, dozing devices with windows and quotas, topics with conditions,
 * and notices that are withdrawn everywhere when they are read.
 *
 * <p>A set of devices is held in an int: bit d stands for the device d.
 */
public final class PushNotices {
    /** There is none: no key. */
    public static final int NONE = -1;
    /** Conditions of two topics: both joined; one or both joined; the first, and not the second. */
    public static final int BOTH = 0, ANY = 1, BUT = 2;

    private static final int USERS = 8;
    private static final int TOPICS = 6;
    private static final int KEYS = 10;
    private static final int MOST_DEVICES = 16;
    private static final int MOST_NOTICES = 120;
    private static final int LEAST_OFFSET = -720;
    private static final int MOST_OFFSET = 840;
    private static final int MOST_LIFETIME = 10000;
    private static final int MOST_MINUTES = 3000;
    private static final int LAST_MINUTE = 100000;
    private static final int DAY = 1440;
    private static final int WINDOW = 60;
    private static final int DAILY_QUOTA = 3;

    private final int[] devicesOfUser = new int[USERS];
    private final int[] devicesOfTopic = new int[TOPICS];
    private int alive = 0;
    private int online = 0;
    private int dozing = 0;

    private final int[] zoneOffset = new int[MOST_DEVICES];
    private final int[] quietFrom = new int[MOST_DEVICES];
    private final int[] quietTo = new int[MOST_DEVICES];
    private final int[] quotaDay = new int[MOST_DEVICES];
    private final int[] quotaSpent = new int[MOST_DEVICES];
    private int deviceCount = 0;

    private final boolean[] isHighNotice = new boolean[MOST_NOTICES];
    private final int[] fallsAt = new int[MOST_NOTICES];
    private final int[] waitSet = new int[MOST_NOTICES];
    private final int[] deliveredSet = new int[MOST_NOTICES];
    private final int[] lastWithKey = new int[USERS * KEYS];
    private int noticeCount = 0;

    private int minute = 0;
    private int deliveryCount = 0;

    /** No devices and notices; it is the minute 0. */
    public PushNotices() {
        for (int place = 0; place < USERS * KEYS; place++) {
            lastWithKey[place] = NONE;
        }
    }

    // ---- devices

    /** Adds a device; returns its number. */
    public int addDevice(int user, int offset) throws IllegalArgumentException, IllegalStateException {
        requireWithin(user, 0, USERS - 1);
        requireWithin(offset, LEAST_OFFSET, MOST_OFFSET);
        if (deviceCount >= MOST_DEVICES) {
            throw new IllegalStateException("there are 16 devices");
        }
        int device = deviceCount;
        deviceCount++;
        zoneOffset[device] = offset;
        devicesOfUser[user] |= bitOf(device);
        alive |= bitOf(device);
        online |= bitOf(device);
        return device;
    }

    /** Lets a device go online or offline; returns how many notices are delivered by that. */
    public int setOnline(int device, boolean isOnline) throws IndexOutOfBoundsException {
        requireDevice(device);
        online = changed(online, device, isOnline);
        return deliverNow();
    }

    /** Lets a device doze, or not; returns how many notices are delivered by that. */
    public int setDozing(int device, boolean isDozing) throws IndexOutOfBoundsException {
        requireDevice(device);
        dozing = changed(dozing, device, isDozing);
        return deliverNow();
    }

    /** Sets the quiet hours of a device; returns how many notices are delivered by that. */
    public int setQuiet(int device, int from, int to)
            throws IndexOutOfBoundsException, IllegalArgumentException {
        requireDevice(device);
        requireWithin(from, 0, DAY - 1);
        requireWithin(to, 0, DAY - 1);
        quietFrom[device] = from;
        quietTo[device] = to;
        return deliverNow();
    }

    /** Lets a device join a topic, or leave it; returns whether it had joined it. */
    public boolean join(int device, int topic, boolean isIn)
            throws IndexOutOfBoundsException, IllegalArgumentException {
        requireDevice(device);
        requireWithin(topic, 0, TOPICS - 1);
        boolean hadJoined = has(devicesOfTopic[topic], device);
        devicesOfTopic[topic] = changed(devicesOfTopic[topic], device, isIn);
        return hadJoined;
    }

    /** Lets the token of a device die; returns how many notices waited for it. */
    public int kill(int device) throws IndexOutOfBoundsException, IllegalStateException {
        requireDevice(device);
        if (!has(alive, device)) {
            throw new IllegalStateException("the token is dead");
        }
        int waited = countWaiting(device);
        alive = changed(alive, device, false);
        for (int notice = 0; notice < noticeCount; notice++) {
            waitSet[notice] = changed(waitSet[notice], device, false);
        }
        return waited;
    }

    /** Returns the number of devices. */
    public int devices() {
        return deviceCount;
    }

    /** Tells whether a device is in its quiet hours. */
    public boolean isQuiet(int device) throws IndexOutOfBoundsException {
        requireDevice(device);
        return isInQuietHours(device);
    }

    // ---- notices

    /** Sends a notice to a user; returns its number. */
    public int send(int user, int key, boolean isHigh, int lifetime)
            throws IllegalArgumentException, IllegalStateException {
        requireWithin(user, 0, USERS - 1);
        if (key != NONE) {
            requireWithin(key, 0, KEYS - 1);
        }
        requireWithin(lifetime, 1, MOST_LIFETIME);
        requireRoomForNotice();
        if (key != NONE) {
            replaceKey(user, key);
        }
        return sendTo(devicesOfUser[user], isHigh, lifetime);
    }

    /** Sends a notice by a condition of topics; returns its number. */
    public int sendBy(int condition, int first, int second, boolean isHigh, int lifetime)
            throws IllegalArgumentException, IllegalStateException {
        requireWithin(condition, BOTH, BUT);
        requireWithin(first, 0, TOPICS - 1);
        requireWithin(second, 0, TOPICS - 1);
        requireWithin(lifetime, 1, MOST_LIFETIME);
        requireRoomForNotice();
        return sendTo(devicesThatFulfil(condition, first, second), isHigh, lifetime);
    }

    /** Reads a notice on a device to which it was delivered; returns for how many devices it waited. */
    public int read(int device, int notice) throws IndexOutOfBoundsException, IllegalStateException {
        requireDevice(device);
        requireNotice(notice);
        if (!has(deliveredSet[notice], device) || !isStanding(notice)) {
            throw new IllegalStateException("it was not delivered there, or does not stand any more");
        }
        int waited = Integer.bitCount(waitsNow(notice));
        withdraw(notice);
        return waited;
    }

    /** Returns how many notices have been sent. */
    public int sent() {
        return noticeCount;
    }

    /** Tells whether a notice stands. */
    public boolean stands(int notice) throws IndexOutOfBoundsException {
        requireNotice(notice);
        return isStanding(notice);
    }

    /** Returns the devices for which a notice waits. */
    public int waitsFor(int notice) throws IndexOutOfBoundsException {
        requireNotice(notice);
        return waitsNow(notice);
    }

    /** Returns the devices to which a notice was delivered. */
    public int deliveredTo(int notice) throws IndexOutOfBoundsException {
        requireNotice(notice);
        return deliveredSet[notice];
    }

    /** Returns the notice with this key that was sent to a user and stands; NONE if there is none. */
    public int standing(int user, int key) throws IllegalArgumentException {
        requireWithin(user, 0, USERS - 1);
        requireWithin(key, 0, KEYS - 1);
        int notice = lastWithKey[placeOf(user, key)];
        return notice != NONE && isStanding(notice) ? notice : NONE;
    }

    /** Returns the badge of a device: how many notices that were delivered to it stand. */
    public int badge(int device) throws IndexOutOfBoundsException {
        requireDevice(device);
        int count = 0;
        for (int notice = 0; notice < noticeCount; notice++) {
            if (has(deliveredSet[notice], device) && isStanding(notice)) {
                count++;
            }
        }
        return count;
    }

    /** Returns how many notices wait for a device. */
    public int waiting(int device) throws IndexOutOfBoundsException {
        requireDevice(device);
        return countWaiting(device);
    }

    /** Returns how many high notices can still be delivered to a device on this day while it is dozing. */
    public int quota(int device) throws IndexOutOfBoundsException {
        requireDevice(device);
        return DAILY_QUOTA - spentToday(device);
    }

    // ---- time

    /** Lets minutes pass; returns how many deliveries there were in them. */
    public int pass(int minutes) throws IllegalArgumentException, IllegalStateException {
        requireWithin(minutes, 1, MOST_MINUTES);
        if (minute + minutes > LAST_MINUTE) {
            throw new IllegalStateException("the clock would be above 100000");
        }
        int end = minute + minutes;
        int delivered = 0;
        for (int step = 0; step < minutes && minute < end; step++) {
            minute = Math.min(end, nextChance());
            delivered += deliverNow();
        }
        return delivered;
    }

    /** Returns the clock. */
    public int clock() {
        return minute;
    }

    /** Returns how many deliveries there have been. */
    public int deliveries() {
        return deliveryCount;
    }

    // What the arguments must be.

    private static void requireWithin(int value, int least, int most) {
        if (value < least || value > most) {
            throw new IllegalArgumentException("an argument is out of range");
        }
    }

    private void requireDevice(int device) {
        if (device < 0 || device >= deviceCount) {
            throw new IndexOutOfBoundsException("there is no such device");
        }
    }

    private void requireNotice(int notice) {
        if (notice < 0 || notice >= noticeCount) {
            throw new IndexOutOfBoundsException("there is no such notice");
        }
    }

    private void requireRoomForNotice() {
        if (noticeCount >= MOST_NOTICES) {
            throw new IllegalStateException("120 notices have been sent");
        }
    }

    // Sets of devices.

    private static int bitOf(int device) {
        return 1 << device;
    }

    private static boolean has(int set, int device) {
        return (set & bitOf(device)) != 0;
    }

    private static int changed(int set, int device, boolean isIn) {
        return isIn ? set | bitOf(device) : set & ~bitOf(device);
    }

    private int devicesThatFulfil(int condition, int first, int second) {
        switch (condition) {
            case BOTH:
                return devicesOfTopic[first] & devicesOfTopic[second];
            case ANY:
                return devicesOfTopic[first] | devicesOfTopic[second];
            default:
                return devicesOfTopic[first] & ~devicesOfTopic[second];
        }
    }

    // Notices: their sending and their end.

    private static int placeOf(int user, int key) {
        return user * KEYS + key;
    }

    /** Withdraws the notice that the next one replaces, and keeps that one's number for the key. */
    private void replaceKey(int user, int key) {
        int place = placeOf(user, key);
        int replaced = lastWithKey[place];
        if (replaced != NONE && isStanding(replaced)) {
            withdraw(replaced);
        }
        lastWithKey[place] = noticeCount;
    }

    private int sendTo(int addressees, boolean isHigh, int lifetime) {
        int notice = noticeCount;
        noticeCount++;
        isHighNotice[notice] = isHigh;
        fallsAt[notice] = minute + lifetime;
        waitSet[notice] = addressees & alive;
        deliverNow();
        return notice;
    }

    // A notice falls by the clock alone, so a withdrawn one is given this very minute as its end.
    private void withdraw(int notice) {
        fallsAt[notice] = minute;
    }

    private boolean isStanding(int notice) {
        return minute < fallsAt[notice];
    }

    private int waitsNow(int notice) {
        return isStanding(notice) ? waitSet[notice] : 0;
    }

    private int countWaiting(int device) {
        int count = 0;
        for (int notice = 0; notice < noticeCount; notice++) {
            if (has(waitsNow(notice), device)) {
                count++;
            }
        }
        return count;
    }

    // Quiet hours and quotas.

    private int localTime(int device) {
        return Math.floorMod(minute + zoneOffset[device], DAY);
    }

    // Both times are counted from the start of the quiet hours, so that midnight needs no case of its own.
    private boolean isInQuietHours(int device) {
        int sinceStart = Math.floorMod(localTime(device) - quietFrom[device], DAY);
        int length = Math.floorMod(quietTo[device] - quietFrom[device], DAY);
        return sinceStart < length;
    }

    private int spentToday(int device) {
        return quotaDay[device] == minute / DAY ? quotaSpent[device] : 0;
    }

    private void spendQuota(int spenders) {
        for (int device = 0; device < deviceCount; device++) {
            if (has(spenders, device)) {
                quotaSpent[device] = spentToday(device) + 1;
                quotaDay[device] = minute / DAY;
            }
        }
    }

    // Deliveries.

    /**
     * Delivers all that can be delivered in this minute, and returns how many deliveries that were.
     * Only its own quota links the deliveries of a device, so going notice by notice, by rising
     * numbers, comes to the same as going device by device.
     */
    private int deliverNow() {
        int before = deliveryCount;
        int openToNormal = openToNormal();
        for (int notice = 0; notice < noticeCount; notice++) {
            int waits = waitsNow(notice);
            if (waits != 0) {
                deliver(notice, waits & (isHighNotice[notice] ? openToHigh() : openToNormal));
            }
        }
        return deliveryCount - before;
    }

    private void deliver(int notice, int takers) {
        waitSet[notice] &= ~takers;
        deliveredSet[notice] |= takers;
        deliveryCount += Integer.bitCount(takers);
        if (isHighNotice[notice]) {
            spendQuota(takers & dozing);
        }
    }

    private int openToNormal() {
        int open = minute % WINDOW == 0 ? online : online & ~dozing;
        for (int device = 0; device < deviceCount; device++) {
            if (isInQuietHours(device)) {
                open = changed(open, device, false);
            }
        }
        return open;
    }

    private int openToHigh() {
        int open = online;
        for (int device = 0; device < deviceCount; device++) {
            if (has(dozing, device) && spentToday(device) >= DAILY_QUOTA) {
                open = changed(open, device, false);
            }
        }
        return open;
    }

    /**
     * The next minute in which something that waits now may be delivered: time alone opens a device
     * only in a window (each day begins with one) or at the end of its quiet hours.
     */
    private int nextChance() {
        int next = minute - minute % WINDOW + WINDOW;
        for (int device = 0; device < deviceCount; device++) {
            if (isInQuietHours(device)) {
                int untilEnd = Math.floorMod(quietTo[device] - localTime(device), DAY);
                next = Math.min(next, minute + untilEnd);
            }
        }
        return next;
    }
}
