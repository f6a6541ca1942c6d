/** Promises 10 to 20: notices. */
final class NoticesTest {
    private static final int NONE = PushNotices.NONE;
    private static final int BOTH = PushNotices.BOTH;
    private static final int ANY = PushNotices.ANY;
    private static final int BUT = PushNotices.BUT;
    private static final Checks CHECKS = new Checks("NoticesTest");

    public static void main(String[] args) {
        refusesToSend();
        refusesToSendBy();
        sendsUpTo120();
        sendsToUsers();
        replacesKeys();
        keepsKeysApart();
        sendsByConditions();
        looksBehindSending();
        reads();
        refusesToRead();
        falls();
        tellsStanding();
        countsBadges();
        countsWaiting();
        tellsQuota();
        refusesQueries();
        holdsAllDevicesAndNotices();
        CHECKS.end();
    }

    private static void same(String what, Object due, Object got) {
        CHECKS.same(what, due, got);
    }

    private static void refusesToSend() {
        PushNotices x = new PushNotices();
        x.addDevice(0, 0);
        x.setOnline(0, false);
        x.send(0, 9, false, 100);
        CHECKS.argument("10: user -1", () -> x.send(-1, 0, true, 1));
        CHECKS.argument("10: user 8", () -> x.send(8, 0, true, 1));
        CHECKS.argument("10: key -2", () -> x.send(0, -2, true, 1));
        CHECKS.argument("10: key 10", () -> x.send(0, 10, true, 1));
        CHECKS.argument("10: lifetime 0", () -> x.send(0, 9, true, 0));
        CHECKS.argument("10: lifetime -1", () -> x.send(0, 9, true, -1));
        CHECKS.argument("10: lifetime 10001", () -> x.send(0, 9, true, 10001));
        same("10: refused ones are not sent", 1, x.sent());
        same("10: and replace nothing", 0, x.standing(0, 9));
        same("10: least and most", 1, x.send(7, 0, true, 1));
        same("10: most and least", 2, x.send(0, 9, true, 10000));
    }

    private static void refusesToSendBy() {
        PushNotices x = new PushNotices();
        CHECKS.argument("11: condition -1", () -> x.sendBy(-1, 0, 0, true, 1));
        CHECKS.argument("11: condition 3", () -> x.sendBy(3, 0, 0, true, 1));
        CHECKS.argument("11: first -1", () -> x.sendBy(BOTH, -1, 0, true, 1));
        CHECKS.argument("11: first 6", () -> x.sendBy(ANY, 6, 0, true, 1));
        CHECKS.argument("11: second -1", () -> x.sendBy(BUT, 0, -1, true, 1));
        CHECKS.argument("11: second 6", () -> x.sendBy(BOTH, 0, 6, true, 1));
        CHECKS.argument("11: lifetime 0", () -> x.sendBy(BOTH, 0, 0, true, 0));
        CHECKS.argument("11: lifetime 10001", () -> x.sendBy(BOTH, 0, 0, true, 10001));
        same("11: refused ones are not sent", 0, x.sent());
        same("11: least", 0, x.sendBy(BOTH, 0, 0, false, 1));
        same("11: most", 1, x.sendBy(BUT, 5, 5, true, 10000));
    }

    private static void sendsUpTo120() {
        PushNotices x = new PushNotices();
        x.addDevice(0, 0);
        x.send(0, 3, false, 10000);
        for (int notice = 1; notice < 120; notice++) {
            same("10, 11: number", notice, notice % 2 == 0 ? x.send(0, NONE, false, 1) : x.sendBy(BOTH, 0, 0, false, 1));
        }
        same("13: sent", 120, x.sent());
        CHECKS.state("10: a 121st notice", () -> x.send(0, 3, true, 1));
        CHECKS.state("11: a 121st notice", () -> x.sendBy(ANY, 0, 0, true, 1));
        CHECKS.argument("10: the arguments first", () -> x.send(0, 3, true, 0));
        CHECKS.argument("10: the user first", () -> x.send(8, 3, true, 1));
        CHECKS.argument("10: the key first", () -> x.send(0, 10, true, 1));
        CHECKS.argument("11: the arguments first", () -> x.sendBy(3, 0, 0, true, 1));
        CHECKS.argument("11: the lifetime first", () -> x.sendBy(BOTH, 0, 0, true, 0));
        same("13: still 120", 120, x.sent());
        same("10: a refused one replaces nothing", 0, x.standing(0, 3));
        same("14: the last notice", true, x.stands(119));
        CHECKS.index("14: behind the last notice", () -> x.stands(120));
        x.pass(1);
        CHECKS.state("10: fallen ones make no room", () -> x.send(0, NONE, true, 1));
    }

    private static void sendsToUsers() {
        PushNotices x = new PushNotices();
        x.addDevice(2, 0);
        x.addDevice(3, 0);
        x.addDevice(2, 0);
        same("10: number", 0, x.send(2, NONE, false, 10));
        same("10: all devices of the user", 5, x.deliveredTo(0));
        same("10: to a user without devices", 1, x.send(4, NONE, false, 10));
        same("10: goes nowhere", 0, x.deliveredTo(1) | x.waitsFor(1));
        same("10: but stands", true, x.stands(1));
        same("13: sent", 2, x.sent());
        same("23: deliveries", 2, x.deliveries());
    }

    private static void replacesKeys() {
        PushNotices x = new PushNotices();
        x.addDevice(1, 0);
        x.addDevice(1, 0);
        x.setOnline(1, false);
        x.send(1, 0, false, 10);
        x.send(1, 0, true, 5);
        same("10: the replaced one does not stand", false, x.stands(0));
        same("10: it waits nowhere", 0, x.waitsFor(0));
        same("10: it was delivered", 1, x.deliveredTo(0));
        same("10: the new one waits", 2, x.waitsFor(1));
        same("10: one waits", 1, x.waiting(1));
        same("10: one in the badge", 1, x.badge(0));
        same("10: one is delivered", 1, x.setOnline(1, true));
        CHECKS.state("10: a replaced one is not read", () -> x.read(0, 0));
        x.pass(5);
        same("10: the replaced one does not come back", NONE, x.standing(1, 0));
        same("10: nor stand again", false, x.stands(0));
        x.send(1, 0, false, 10);
        same("10: a fallen one is not in the way", 2, x.standing(1, 0));
        x.read(0, 2);
        x.send(1, 0, false, 10);
        same("10: nor is one that was read", 3, x.standing(1, 0));
    }

    private static void keepsKeysApart() {
        PushNotices x = new PushNotices();
        x.addDevice(0, 0);
        x.addDevice(1, 0);
        x.join(0, 0, true);
        x.send(0, 1, false, 10);
        x.send(1, 1, false, 10);
        x.send(0, 2, false, 10);
        x.send(0, NONE, false, 10);
        x.send(0, NONE, false, 10);
        x.sendBy(ANY, 0, 0, false, 10);
        x.sendBy(ANY, 0, 0, false, 10);
        for (int notice = 0; notice < 7; notice++) {
            same("10, 11: no other key, user or none is replaced", true, x.stands(notice));
        }
        same("17: of user 0", 0, x.standing(0, 1));
        same("17: of user 1", 1, x.standing(1, 1));
        same("17: of key 2", 2, x.standing(0, 2));
        same("18: badge", 6, x.badge(0));
        x.send(0, 1, false, 10);
        same("10: replaced", false, x.stands(0));
        same("10: the other user's stands", true, x.stands(1));
        same("10: the other key's stands", true, x.stands(2));
    }

    private static void sendsByConditions() {
        PushNotices x = new PushNotices();
        for (int device = 0; device < 8; device++) {
            x.addDevice(device, 0);
            x.join(device, 0, (device & 1) != 0);
            x.join(device, 5, (device & 2) != 0);
            x.join(device, 3, (device & 4) != 0);
        }
        same("11: both", 0x88, x.deliveredTo(x.sendBy(BOTH, 0, 5, false, 1)));
        same("11: any", 0xEE, x.deliveredTo(x.sendBy(ANY, 0, 5, false, 1)));
        same("11: the first, not the second", 0x22, x.deliveredTo(x.sendBy(BUT, 0, 5, false, 1)));
        same("11: the other way round", 0x44, x.deliveredTo(x.sendBy(BUT, 5, 0, false, 1)));
        same("11: both of one", 0xF0, x.deliveredTo(x.sendBy(BOTH, 3, 3, false, 1)));
        same("11: any of one", 0xF0, x.deliveredTo(x.sendBy(ANY, 3, 3, true, 1)));
        same("11: one but itself", 0, x.deliveredTo(x.sendBy(BUT, 3, 3, true, 1)));
        same("11: but a topic that none joined", 0xF0, x.deliveredTo(x.sendBy(BUT, 3, 1, true, 1)));
        same("11: topics that none joined", 0, x.deliveredTo(x.sendBy(ANY, 1, 2, true, 1)));
        x.kill(7);
        x.setOnline(3, false);
        int notice = x.sendBy(BOTH, 5, 0, false, 1);
        same("11: none to a dead token, and an offline one waits", 8, x.waitsFor(notice));
        same("11: no device is left", 0, x.deliveredTo(notice));
        x.pass(1);
        same("11: its lifetime ends", false, x.stands(notice));
        same("11: and it waits nowhere", 0, x.setOnline(3, true));
    }

    private static void looksBehindSending() {
        PushNotices x = new PushNotices();
        x.addDevice(0, 0);
        x.pass(1);
        x.setDozing(0, true);
        x.join(0, 2, true);
        int normal = x.send(0, NONE, false, 100);
        int high = x.sendBy(ANY, 2, 2, true, 100);
        same("10: normal waits for a dozing device", 1, x.waitsFor(normal));
        same("11: high is delivered to it", 1, x.deliveredTo(high));
        same("20: and counts", 2, x.quota(0));
        x.setQuiet(0, 0, 10);
        same("10: high is delivered in quiet hours", 1, x.deliveredTo(x.send(0, NONE, true, 100)));
        same("20: and counts", 1, x.quota(0));
        x.setDozing(0, false);
        same("11: normal waits in quiet hours", 1, x.waitsFor(x.sendBy(ANY, 2, 2, false, 100)));
        same("21: both come behind the quiet hours", 2, x.pass(9));
    }

    private static void reads() {
        PushNotices x = new PushNotices();
        x.addDevice(0, 0);
        x.addDevice(0, 0);
        x.addDevice(0, 0);
        x.addDevice(0, 0);
        x.setOnline(2, false);
        x.setOnline(3, false);
        int notice = x.send(0, 7, false, 100);
        int other = x.send(0, NONE, false, 100);
        same("12: waited for two", 2, x.read(1, notice));
        same("12: stands no more", false, x.stands(notice));
        same("12: waits nowhere", 0, x.waitsFor(notice));
        same("12: stays delivered", 3, x.deliveredTo(notice));
        same("12: has no key", NONE, x.standing(0, 7));
        same("12: the badge of the reader", 1, x.badge(1));
        same("12: and of the other", 1, x.badge(0));
        same("12: only the other notice waits", 1, x.waiting(2));
        same("12: only the other notice is delivered", 1, x.setOnline(2, true));
        same("12: waited for one", 1, x.read(2, other));
        same("12: none comes", 0, x.setOnline(3, true));
        same("12: waited for none", 0, x.read(3, x.send(0, NONE, true, 1)));
    }

    private static void refusesToRead() {
        PushNotices x = new PushNotices();
        CHECKS.index("12: no device", () -> x.read(0, 0));
        x.addDevice(0, 0);
        x.addDevice(0, 0);
        CHECKS.index("12: no notice", () -> x.read(0, 0));
        x.setOnline(1, false);
        x.send(0, NONE, false, 2);
        CHECKS.index("12: device -1", () -> x.read(-1, 0));
        CHECKS.index("12: device 2", () -> x.read(2, 0));
        CHECKS.index("12: notice -1", () -> x.read(0, -1));
        CHECKS.index("12: notice 1", () -> x.read(0, 1));
        CHECKS.state("12: not delivered there", () -> x.read(1, 0));
        same("12: a refused one changes nothing", true, x.stands(0));
        same("12: it still waits", 2, x.waitsFor(0));
        x.pass(2);
        CHECKS.state("12: fallen", () -> x.read(0, 0));
        x.send(0, NONE, false, 2);
        x.read(0, 1);
        CHECKS.state("12: read already", () -> x.read(0, 1));
    }

    private static void falls() {
        PushNotices x = new PushNotices();
        x.addDevice(0, 0);
        x.setOnline(0, false);
        x.pass(3);
        x.send(0, NONE, false, 1);
        x.send(0, NONE, true, 2);
        x.send(0, 0, true, 10000);
        same("14: stands at once", true, x.stands(0));
        x.pass(1);
        same("14: fallen", false, x.stands(0));
        same("15: waits nowhere", 0, x.waitsFor(0));
        same("14: stands one minute more", true, x.stands(1));
        same("15: waits one minute more", 1, x.waitsFor(1));
        x.pass(1);
        same("14: fallen as well", false, x.stands(1));
        x.pass(3000);
        x.pass(3000);
        x.pass(3000);
        x.pass(997);
        same("14: stands up to its last minute", true, x.stands(2));
        same("17: with its key", 2, x.standing(0, 0));
        x.pass(1);
        same("14: fallen in the end", false, x.stands(2));
        same("3: nothing is left", 0, x.setOnline(0, true));
    }

    private static void tellsStanding() {
        PushNotices x = new PushNotices();
        CHECKS.argument("17: user -1", () -> x.standing(-1, 0));
        CHECKS.argument("17: user 8", () -> x.standing(8, 0));
        CHECKS.argument("17: key -1", () -> x.standing(0, -1));
        CHECKS.argument("17: key 10", () -> x.standing(0, 10));
        x.send(7, 9, false, 2);
        x.send(0, 0, false, 2);
        same("17: the last user and key", 0, x.standing(7, 9));
        same("17: the first ones", 1, x.standing(0, 0));
        same("17: another key", NONE, x.standing(7, 8));
        same("17: another user", NONE, x.standing(6, 9));
        x.send(0, NONE, false, 2);
        x.sendBy(ANY, 0, 0, false, 2);
        same("17: one without a key is none", 1, x.standing(0, 0));
        x.pass(1);
        x.send(7, 9, false, 2);
        x.pass(1);
        same("17: the replacing one stands on", 4, x.standing(7, 9));
        same("17: the other has fallen", NONE, x.standing(0, 0));
    }

    private static void countsBadges() {
        PushNotices x = new PushNotices();
        x.addDevice(0, 0);
        x.addDevice(0, 0);
        same("18: none", 0, x.badge(0));
        x.setOnline(1, false);
        x.send(0, NONE, false, 1);
        x.send(0, NONE, true, 2);
        x.send(0, 5, true, 3);
        x.send(0, 5, true, 3);
        same("18: all that stand", 3, x.badge(0));
        same("18: those that wait don't count", 0, x.badge(1));
        x.pass(1);
        same("18: the fallen one is off", 2, x.badge(0));
        x.setOnline(1, true);
        same("18: delivered later", 2, x.badge(1));
        x.read(1, 3);
        same("18: read elsewhere", 1, x.badge(0));
        x.pass(1);
        same("18: none is left", 0, x.badge(0) + x.badge(1));
    }

    private static void countsWaiting() {
        PushNotices x = new PushNotices();
        x.addDevice(0, 0);
        x.addDevice(0, 0);
        x.setOnline(0, false);
        same("19: none", 0, x.waiting(0));
        x.send(0, NONE, false, 1);
        x.send(0, 5, true, 2);
        x.send(0, 5, false, 3);
        same("19: those that stand", 2, x.waiting(0));
        same("19: none for the other", 0, x.waiting(1));
        same("15: for the one", 1, x.waitsFor(2));
        same("16: to the other", 2, x.deliveredTo(2));
        x.pass(1);
        same("19: the fallen one is off", 1, x.waiting(0));
        x.setOnline(0, true);
        same("19: delivered", 0, x.waiting(0));
        same("15: waits for none", 0, x.waitsFor(2));
        same("16: to both", 3, x.deliveredTo(2));
        x.pass(2);
        same("16: the fallen one stays delivered", 3, x.deliveredTo(2));
    }

    private static void tellsQuota() {
        PushNotices x = new PushNotices();
        x.addDevice(0, 840);
        x.addDevice(0, 0);
        x.setDozing(0, true);
        x.send(0, NONE, false, 100);
        same("20: normal ones don't count", 3, x.quota(0));
        for (int left = 2; left >= 0; left--) {
            x.send(0, NONE, true, 3000);
            same("20: left", left, x.quota(0));
        }
        x.send(0, NONE, true, 3000);
        same("20: no more than three", 0, x.quota(0));
        same("20: the one awake has all", 3, x.quota(1));
        same("16: the fourth waits", 2, x.deliveredTo(4));
        x.kill(0);
        same("20: of a dead token", 0, x.quota(0));
        same("20: not by the local day", 0, x.pass(1439) + x.quota(0));
        x.pass(1);
        same("20: a new day", 3, x.quota(0));
    }

    private static void refusesQueries() {
        PushNotices x = new PushNotices();
        for (int count = 0; count < 2; count++) {
            for (int number : new int[] {-1, count, Integer.MAX_VALUE, Integer.MIN_VALUE}) {
                CHECKS.index("14: stands", () -> x.stands(number));
                CHECKS.index("15: waitsFor", () -> x.waitsFor(number));
                CHECKS.index("16: deliveredTo", () -> x.deliveredTo(number));
                CHECKS.index("18: badge", () -> x.badge(number));
                CHECKS.index("19: waiting", () -> x.waiting(number));
                CHECKS.index("20: quota", () -> x.quota(number));
            }
            x.addDevice(0, 0);
            x.send(0, NONE, false, 5);
        }
    }

    private static void holdsAllDevicesAndNotices() {
        PushNotices x = new PushNotices();
        for (int device = 0; device < 16; device++) {
            x.addDevice(7, 0);
            x.setDozing(device, true);
            x.setOnline(device, false);
        }
        x.pass(1);
        for (int notice = 0; notice < 120; notice++) {
            x.send(7, notice % 40 == 0 ? notice / 40 : NONE, notice % 2 == 0, 3000);
        }
        same("15: all notices wait for all devices", 0xFFFF, x.waitsFor(119));
        same("19: the last device", 120, x.waiting(15));
        same("7: the last device", 120, x.kill(15));
        same("3: three high ones by the quota", 3, x.setOnline(14, true));
        same("18: badge", 3, x.badge(14));
        same("20: quota", 0, x.quota(14));
        same("21: the normal ones in the window", 60, x.pass(59));
        same("18: badge then", 63, x.badge(14));
        same("4: the other high ones", 57, x.setDozing(14, false));
        same("18: all in the badge", 120, x.badge(14));
        same("12: the last notice is read", 14, x.read(14, 119));
        same("21: no more on this day", 0, x.pass(1380));
        same("23: deliveries", 120, x.deliveries());
    }
}
