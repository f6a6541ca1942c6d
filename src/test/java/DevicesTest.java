/** Promises 1 to 9: a new object, and devices. */
final class DevicesTest {
    private static final int NONE = PushNotices.NONE;
    private static final Checks CHECKS = new Checks("DevicesTest");

    public static void main(String[] args) {
        newObject();
        addsDevices();
        refusesDevices();
        startsDevices();
        goesOnlineAndOffline();
        dozes();
        dozesWithQuota();
        setsQuietHours();
        joinsAndLeaves();
        kills();
        livesOnWithDeadToken();
        tellsQuietHours();
        tellsQuietHoursByZone();
        CHECKS.end();
    }

    private static void same(String what, Object due, Object got) {
        CHECKS.same(what, due, got);
    }

    private static void newObject() {
        PushNotices x = new PushNotices();
        same("1: devices", 0, x.devices());
        same("1: sent", 0, x.sent());
        same("1: clock", 0, x.clock());
        same("1: deliveries", 0, x.deliveries());
        for (int user = 0; user < 8; user++) {
            for (int key = 0; key < 10; key++) {
                same("1: standing", NONE, x.standing(user, key));
            }
        }
        CHECKS.index("1: no device 0", () -> x.badge(0));
        CHECKS.index("1: no notice 0", () -> x.stands(0));
    }

    private static void addsDevices() {
        PushNotices x = new PushNotices();
        for (int device = 0; device < 16; device++) {
            same("8: devices before", device, x.devices());
            same("2: number", device, x.addDevice(device % 8, device % 2 == 0 ? -720 : 840));
        }
        same("8: devices", 16, x.devices());
        CHECKS.state("2: a 17th device", () -> x.addDevice(0, 0));
        CHECKS.argument("2: user first, at the 17th", () -> x.addDevice(8, 0));
        CHECKS.argument("2: offset first, at the 17th", () -> x.addDevice(0, 841));
        same("8: still 16", 16, x.devices());
        for (int user = 0; user < 8; user++) {
            int notice = x.send(user, NONE, false, 1);
            same("2: devices of user " + user, 0x101 << user, x.deliveredTo(notice));
        }
        CHECKS.index("2: no device 16", () -> x.quota(16));
        same("2: the last device", 3, x.quota(15));
        PushNotices other = new PushNotices();
        same("8: objects are apart", 0, other.devices());
    }

    private static void refusesDevices() {
        PushNotices x = new PushNotices();
        CHECKS.argument("2: user 8", () -> x.addDevice(8, 0));
        CHECKS.argument("2: user -1", () -> x.addDevice(-1, 0));
        CHECKS.argument("2: offset -721", () -> x.addDevice(0, -721));
        CHECKS.argument("2: offset 841", () -> x.addDevice(0, 841));
        CHECKS.argument("2: extremes", () -> x.addDevice(Integer.MIN_VALUE, Integer.MAX_VALUE));
        same("2: a refused device is not added", 0, x.devices());
        same("2: user 7, offset -720", 0, x.addDevice(7, -720));
        same("2: user 0, offset 840", 1, x.addDevice(0, 840));
        same("2: user of each", 1, x.deliveredTo(x.send(7, NONE, false, 1)));
    }

    private static void startsDevices() {
        PushNotices x = new PushNotices();
        x.pass(7);
        x.addDevice(3, 0);
        same("2: online and not dozing at first", 1, x.deliveredTo(x.send(3, NONE, false, 5)));
        same("2: joined none", false, x.join(0, 0, false));
        same("2: has no quiet hours", false, x.isQuiet(0));
        same("2: quota", 3, x.quota(0));
        same("2: alive", 0, x.kill(0));
        x.addDevice(3, 0);
        same("2: a notice sent before does not come to a later device", 1, x.deliveredTo(0));
        same("2: nor does it wait for it", 0, x.waiting(1));
    }

    private static void goesOnlineAndOffline() {
        PushNotices x = new PushNotices();
        CHECKS.index("3: no device", () -> x.setOnline(0, true));
        x.addDevice(0, 0);
        x.addDevice(0, 0);
        CHECKS.index("3: device -1", () -> x.setOnline(-1, true));
        CHECKS.index("3: device 2", () -> x.setOnline(2, true));
        same("3: offline", 0, x.setOnline(0, false));
        same("3: offline again", 0, x.setOnline(0, false));
        x.send(0, NONE, false, 10);
        x.send(0, NONE, true, 10);
        x.send(0, NONE, false, 1);
        same("3: only the other is online", 2, x.deliveredTo(0));
        same("3: a high one waits too", 1, x.waitsFor(1));
        x.pass(1);
        same("3: three, less the fallen one", 2, x.setOnline(0, true));
        same("3: online again", 0, x.setOnline(0, true));
        same("3: delivered", 3, x.deliveredTo(0));
        same("3: the fallen one is not", 2, x.deliveredTo(2));
        same("3: a delivery is made once", 5, x.deliveries());
    }

    private static void dozes() {
        PushNotices x = new PushNotices();
        CHECKS.index("4: no device", () -> x.setDozing(0, true));
        x.addDevice(0, 30);
        CHECKS.index("4: device -1", () -> x.setDozing(-1, false));
        CHECKS.index("4: device 1", () -> x.setDozing(1, false));
        same("4: dozes", 0, x.setDozing(0, true));
        same("4: minute 0 is in a window", 1, x.deliveredTo(x.send(0, NONE, false, 500)));
        x.pass(1);
        int late = x.send(0, NONE, false, 500);
        same("4: waits behind the window", 1, x.waitsFor(late));
        same("4: it still dozes", 0, x.setDozing(0, true));
        same("4: not by local time", 0, x.pass(58));
        same("4: the window", 1, x.pass(1));
        x.pass(59);
        x.send(0, NONE, false, 500);
        x.send(0, NONE, true, 500);
        same("4: the normal one waits, the high one does not", 1, x.waiting(0));
        same("4: awake", 1, x.setDozing(0, false));
        same("4: awake again", 0, x.setDozing(0, false));
        x.setDozing(0, true);
        x.setOnline(0, false);
        x.send(0, NONE, false, 500);
        same("4: offline in the window", 0, x.pass(62));
        same("4: online behind the window", 0, x.setOnline(0, true));
        same("4: online in the next window", 1, x.pass(59));
    }

    private static void dozesWithQuota() {
        PushNotices x = new PushNotices();
        x.addDevice(0, 0);
        x.pass(1);
        for (int i = 0; i < 4; i++) {
            x.send(0, NONE, true, 5000);
        }
        same("4: high ones to a device awake don't count", 3, x.quota(0));
        x.setOnline(0, false);
        x.setDozing(0, true);
        for (int i = 0; i < 5; i++) {
            x.send(0, NONE, true, 5000);
        }
        same("4: three by the quota", 3, x.setOnline(0, true));
        same("4: by rising numbers", 1, x.deliveredTo(6));
        same("4: the rest waits", 0, x.deliveredTo(7));
        same("4: a window is no way round the quota", 0, x.pass(59));
        same("4: awake, the rest comes", 2, x.setDozing(0, false));
        x.setDozing(0, true);
        same("4: a nap does not renew the quota", 0, x.quota(0));
        x.send(0, NONE, true, 5000);
        x.send(0, NONE, false, 5000);
        same("4: normal in a window, with the quota spent", 1, x.deliveredTo(10));
        same("4: up to the end of the day", 0, x.pass(1379));
        same("4: the next day", 1, x.pass(1));
        same("4: one of the next day's is spent", 2, x.quota(0));
    }

    private static void setsQuietHours() {
        PushNotices x = new PushNotices();
        CHECKS.index("5: no device comes first", () -> x.setQuiet(0, -1, 1440));
        x.addDevice(0, 0);
        x.pass(100);
        CHECKS.index("5: device -1", () -> x.setQuiet(-1, 0, 0));
        CHECKS.argument("5: from -1", () -> x.setQuiet(0, -1, 0));
        CHECKS.argument("5: from 1440", () -> x.setQuiet(0, 1440, 0));
        CHECKS.argument("5: to -1", () -> x.setQuiet(0, 0, -1));
        CHECKS.argument("5: to 1440", () -> x.setQuiet(0, 0, 1440));
        same("5: refused ones change nothing", false, x.isQuiet(0));
        same("5: quiet", 0, x.setQuiet(0, 90, 110));
        x.send(0, NONE, false, 1000);
        x.send(0, NONE, true, 1000);
        same("5: the normal one waits", 1, x.waitsFor(0));
        same("5: the high one is delivered", 1, x.deliveredTo(1));
        CHECKS.argument("5: refused", () -> x.setQuiet(0, 0, 1440));
        same("5: refused, it stays quiet", true, x.isQuiet(0));
        same("5: still quiet", 0, x.setQuiet(0, 100, 101));
        same("5: quiet no more", 1, x.setQuiet(0, 101, 100));
        same("5: all day but a minute", 0, x.setQuiet(0, 0, 1439));
        x.send(0, NONE, false, 3000);
        same("5: up to the last minute of the day", 0, x.pass(1338));
        same("5: in the last minute", 1, x.pass(1));
        x.setQuiet(0, 1439, 1438);
        x.setDozing(0, true);
        x.send(0, NONE, false, 3000);
        same("5: a window within the quiet hours", 0, x.pass(1438));
        same("5: quiet hours that end behind the window", 0, x.pass(1));
    }

    private static void joinsAndLeaves() {
        PushNotices x = new PushNotices();
        CHECKS.index("6: no device comes first", () -> x.join(0, 6, true));
        x.addDevice(0, 0);
        x.addDevice(1, 0);
        CHECKS.index("6: device 2", () -> x.join(2, 0, true));
        CHECKS.argument("6: topic -1", () -> x.join(0, -1, true));
        CHECKS.argument("6: topic 6", () -> x.join(0, 6, true));
        for (int topic = 0; topic < 6; topic++) {
            same("6: joins " + topic, false, x.join(0, topic, true));
            same("6: had joined " + topic, true, x.join(0, topic, true));
            same("6: the other had not " + topic, false, x.join(1, topic, false));
        }
        x.setOnline(0, false);
        int notice = x.sendBy(PushNotices.ANY, 5, 5, false, 10);
        same("6: leaves", true, x.join(0, 5, false));
        same("6: had left", false, x.join(0, 5, false));
        same("6: the others stay", true, x.join(0, 4, true));
        same("6: what was sent stays", 1, x.waitsFor(notice));
        x.join(1, 5, true);
        same("6: what was sent does not come to a later one", 1, x.waitsFor(notice));
        same("6: nor is it delivered there", 0, x.deliveredTo(notice));
    }

    private static void kills() {
        PushNotices x = new PushNotices();
        CHECKS.index("7: no device", () -> x.kill(0));
        x.addDevice(0, 0);
        x.addDevice(0, 0);
        CHECKS.index("7: device -1", () -> x.kill(-1));
        CHECKS.index("7: device 2", () -> x.kill(2));
        x.setOnline(0, false);
        x.setOnline(1, false);
        x.send(0, NONE, false, 10);
        x.send(0, NONE, true, 10);
        x.send(0, NONE, true, 1);
        x.send(0, 4, true, 10);
        x.send(0, 4, true, 10);
        x.pass(1);
        same("7: waited, but the fallen and the replaced one", 3, x.kill(0));
        same("7: waits for nothing", 0, x.waiting(0));
        same("7: the other device waits", 2, x.waitsFor(0));
        same("7: and its count", 3, x.waiting(1));
        same("7: the notices stand", true, x.stands(1));
        CHECKS.state("7: a dead token", () -> x.kill(0));
        CHECKS.index("7: no device comes first", () -> x.kill(2));
        same("7: it stays a device", 2, x.devices());
        same("7: no delivery when it goes online", 0, x.setOnline(0, true));
        same("7: all for the other", 3, x.setOnline(1, true));
    }

    private static void livesOnWithDeadToken() {
        PushNotices x = new PushNotices();
        x.addDevice(0, 0);
        x.addDevice(0, 0);
        x.join(0, 1, true);
        int before = x.send(0, NONE, false, 10);
        same("7: none waited", 0, x.kill(0));
        same("7: what was delivered stays so", 3, x.deliveredTo(before));
        same("7: the badge stays", 1, x.badge(0));
        same("7: new ones go to the living", 2, x.deliveredTo(x.send(0, NONE, true, 10)));
        int by = x.sendBy(PushNotices.ANY, 1, 1, true, 10);
        same("7: none by topics", 0, x.deliveredTo(by) | x.waitsFor(by));
        same("7: it can still be set", 0, x.setDozing(0, true) + x.setQuiet(0, 0, 5));
        same("7: and be quiet", true, x.isQuiet(0));
        same("7: and join", false, x.join(0, 2, true));
        same("7: a dead device reads what it has", 0, x.read(0, before));
        same("7: which is withdrawn on the other", 1, x.badge(1));
    }

    private static void tellsQuietHours() {
        PushNotices x = new PushNotices();
        CHECKS.index("9: no device", () -> x.isQuiet(0));
        x.addDevice(0, 0);
        x.addDevice(0, 0);
        CHECKS.index("9: device -1", () -> x.isQuiet(-1));
        CHECKS.index("9: device 2", () -> x.isQuiet(2));
        x.setQuiet(0, 10, 20);
        x.setQuiet(1, 1430, 10);
        same("9: over midnight, at midnight", true, x.isQuiet(1));
        x.pass(9);
        same("9: before", false, x.isQuiet(0));
        same("9: over midnight, its last minute", true, x.isQuiet(1));
        x.pass(1);
        same("9: from", true, x.isQuiet(0));
        same("9: over midnight, to", false, x.isQuiet(1));
        x.pass(9);
        same("9: the last minute", true, x.isQuiet(0));
        x.pass(1);
        same("9: to", false, x.isQuiet(0));
        x.setQuiet(0, 20, 20);
        same("9: both the same", false, x.isQuiet(0));
        x.pass(1409);
        same("9: over midnight, before", false, x.isQuiet(1));
        x.pass(1);
        same("9: over midnight, from", true, x.isQuiet(1));
    }

    private static void tellsQuietHoursByZone() {
        PushNotices x = new PushNotices();
        x.addDevice(0, -720);
        x.addDevice(0, 840);
        x.addDevice(0, -1);
        x.setQuiet(0, 720, 721);
        x.setQuiet(1, 840, 841);
        x.setQuiet(2, 1439, 0);
        same("9: 12 hours behind", true, x.isQuiet(0));
        same("9: 14 hours ahead", true, x.isQuiet(1));
        same("9: a minute behind", true, x.isQuiet(2));
        x.pass(1);
        same("9: all past", false, x.isQuiet(0) || x.isQuiet(1) || x.isQuiet(2));
        x.setQuiet(1, 0, 1);
        x.pass(599);
        same("9: the next local day", true, x.isQuiet(1));
        x.pass(840);
        same("9: a day later", true, x.isQuiet(0));
        x.pass(1440);
        same("9: two days later", true, x.isQuiet(0));
    }
}
