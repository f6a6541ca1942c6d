import java.util.ArrayList;
import java.util.List;

/**
 * The document again, in other words than the program's: every minute is gone through, device by
 * device and notice by notice, and whatever stands or waits is told of each notice one by one.
 */
final class PlainModel {
    private static final class Device {
        int user;
        int offset;
        boolean online = true;
        boolean dozing = false;
        boolean alive = true;
        int from = 0;
        int to = 0;
        final boolean[] topics = new boolean[6];
        int highOnDay = 0;
    }

    private static final class Notice {
        int user = -1;
        int key = -1;
        boolean high;
        int minutesLeft;
        boolean ended = false;
        final boolean[] waits = new boolean[16];
        final boolean[] delivered = new boolean[16];

        void end() {
            ended = true;
            for (int d = 0; d < 16; d++) {
                waits[d] = false;
            }
        }
    }

    private final List<Device> devices = new ArrayList<>();
    private final List<Notice> notices = new ArrayList<>();
    private int clock = 0;
    private int deliveries = 0;

    int addDevice(int user, int offset) {
        argument(user >= 0 && user <= 7 && offset >= -720 && offset <= 840);
        state(devices.size() < 16);
        Device device = new Device();
        device.user = user;
        device.offset = offset;
        devices.add(device);
        return devices.size() - 1;
    }

    int setOnline(int device, boolean isOnline) {
        deviceAt(device).online = isOnline;
        return look();
    }

    int setDozing(int device, boolean isDozing) {
        deviceAt(device).dozing = isDozing;
        return look();
    }

    int setQuiet(int device, int from, int to) {
        Device it = deviceAt(device);
        argument(from >= 0 && from <= 1439 && to >= 0 && to <= 1439);
        it.from = from;
        it.to = to;
        return look();
    }

    boolean join(int device, int topic, boolean isIn) {
        Device it = deviceAt(device);
        argument(topic >= 0 && topic <= 5);
        boolean had = it.topics[topic];
        it.topics[topic] = isIn;
        return had;
    }

    int kill(int device) {
        Device it = deviceAt(device);
        state(it.alive);
        int waited = waiting(device);
        it.alive = false;
        for (Notice notice : notices) {
            notice.waits[device] = false;
        }
        return waited;
    }

    int devices() {
        return devices.size();
    }

    boolean isQuiet(int device) {
        return quiet(deviceAt(device));
    }

    int send(int user, int key, boolean isHigh, int lifetime) {
        argument(user >= 0 && user <= 7 && key >= -1 && key <= 9 && lifetime >= 1 && lifetime <= 10000);
        state(notices.size() < 120);
        if (key != -1 && standing(user, key) != -1) {
            notices.get(standing(user, key)).end();
        }
        Notice notice = newNotice(isHigh, lifetime);
        notice.user = user;
        notice.key = key;
        for (int d = 0; d < devices.size(); d++) {
            notice.waits[d] = devices.get(d).alive && devices.get(d).user == user;
        }
        look();
        return notices.size() - 1;
    }

    int sendBy(int condition, int first, int second, boolean isHigh, int lifetime) {
        argument(condition >= 0 && condition <= 2 && first >= 0 && first <= 5 && second >= 0 && second <= 5
                && lifetime >= 1 && lifetime <= 10000);
        state(notices.size() < 120);
        Notice notice = newNotice(isHigh, lifetime);
        for (int d = 0; d < devices.size(); d++) {
            boolean one = devices.get(d).topics[first];
            boolean two = devices.get(d).topics[second];
            boolean fulfils = condition == 0 ? one && two : condition == 1 ? one || two : one && !two;
            notice.waits[d] = devices.get(d).alive && fulfils;
        }
        look();
        return notices.size() - 1;
    }

    int read(int device, int notice) {
        deviceAt(device);
        Notice it = noticeAt(notice);
        state(it.delivered[device] && !it.ended);
        int waited = Integer.bitCount(waitsFor(notice));
        it.end();
        return waited;
    }

    int sent() {
        return notices.size();
    }

    boolean stands(int notice) {
        return !noticeAt(notice).ended;
    }

    int waitsFor(int notice) {
        return bits(noticeAt(notice).waits);
    }

    int deliveredTo(int notice) {
        return bits(noticeAt(notice).delivered);
    }

    int standing(int user, int key) {
        argument(user >= 0 && user <= 7 && key >= 0 && key <= 9);
        for (int n = 0; n < notices.size(); n++) {
            if (notices.get(n).user == user && notices.get(n).key == key && !notices.get(n).ended) {
                return n;
            }
        }
        return -1;
    }

    int badge(int device) {
        deviceAt(device);
        int count = 0;
        for (Notice notice : notices) {
            count += notice.delivered[device] && !notice.ended ? 1 : 0;
        }
        return count;
    }

    int waiting(int device) {
        deviceAt(device);
        int count = 0;
        for (Notice notice : notices) {
            count += notice.waits[device] ? 1 : 0;
        }
        return count;
    }

    int quota(int device) {
        return 3 - deviceAt(device).highOnDay;
    }

    int pass(int minutes) {
        argument(minutes >= 1 && minutes <= 3000);
        state(clock + minutes <= 100000);
        int before = deliveries;
        for (int i = 0; i < minutes; i++) {
            passOneMinute();
        }
        return deliveries - before;
    }

    int clock() {
        return clock;
    }

    int deliveries() {
        return deliveries;
    }

    private void passOneMinute() {
        clock++;
        if (clock % 1440 == 0) {
            for (Device device : devices) {
                device.highOnDay = 0;
            }
        }
        for (Notice notice : notices) {
            if (!notice.ended) {
                notice.minutesLeft--;
                if (notice.minutesLeft == 0) {
                    notice.end();
                }
            }
        }
        look();
    }

    private int look() {
        int before = deliveries;
        for (int d = 0; d < devices.size(); d++) {
            for (Notice notice : notices) {
                if (notice.waits[d] && canTake(devices.get(d), notice)) {
                    notice.waits[d] = false;
                    notice.delivered[d] = true;
                    deliveries++;
                    if (notice.high && devices.get(d).dozing) {
                        devices.get(d).highOnDay++;
                    }
                }
            }
        }
        return deliveries - before;
    }

    private boolean canTake(Device device, Notice notice) {
        if (!device.online) {
            return false;
        }
        if (notice.high) {
            return !device.dozing || device.highOnDay < 3;
        }
        return !quiet(device) && (!device.dozing || clock % 60 == 0);
    }

    private boolean quiet(Device device) {
        int local = (clock + device.offset + 1440) % 1440;
        if (device.from <= device.to) {
            return device.from <= local && local < device.to;
        }
        return device.from <= local || local < device.to;
    }

    private Notice newNotice(boolean high, int lifetime) {
        Notice notice = new Notice();
        notice.high = high;
        notice.minutesLeft = lifetime;
        notices.add(notice);
        return notice;
    }

    private static int bits(boolean[] set) {
        int bits = 0;
        for (int d = 0; d < 16; d++) {
            bits += set[d] ? 1 << d : 0;
        }
        return bits;
    }

    private Device deviceAt(int device) {
        if (device < 0 || device >= devices.size()) {
            throw new IndexOutOfBoundsException();
        }
        return devices.get(device);
    }

    private Notice noticeAt(int notice) {
        if (notice < 0 || notice >= notices.size()) {
            throw new IndexOutOfBoundsException();
        }
        return notices.get(notice);
    }

    private static void argument(boolean isRight) {
        if (!isRight) {
            throw new IllegalArgumentException();
        }
    }

    private static void state(boolean isRight) {
        if (!isRight) {
            throw new IllegalStateException();
        }
    }
}
