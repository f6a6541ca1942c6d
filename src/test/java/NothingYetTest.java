/** Where there is nothing yet, or nothing more: no device, no notice, nothing that waits, no key. */
final class NothingYetTest {
    private static final int NONE = PushNotices.NONE;
    private static final int BOTH = PushNotices.BOTH;
    private static final int ANY = PushNotices.ANY;
    private static final int BUT = PushNotices.BUT;
    private static final Checks CHECKS = new Checks("NothingYetTest");

    public static void main(String[] args) {
        countsNothing();
        hasNoDevice();
        hasNoNotice();
        hasNoKey();
        keepsNoKeyOfNone();
        keepsNoKeyOfTopics();
        losesItsKey();
        passesWithNothing();
        sendsToNobody();
        sendsByTopicsToNobody();
        deliversNothing();
        killsWithoutWaiting();
        readsWithoutWaiting();
        hasNoBadge();
        startsDevices();
        keepsConstants();
        keepsObjectsApart();
        CHECKS.end();
    }

    private static void same(String what, Object due, Object got) {
        CHECKS.same(what, due, got);
    }

    private static void countsNothing() {
        CHECKS.about("1: No devices and notices; it is the minute 0");
        same("8: devices", 0, new PushNotices().devices());
        same("13: sent", 0, new PushNotices().sent());
        same("22: clock", 0, new PushNotices().clock());
        same("23: deliveries", 0, new PushNotices().deliveries());
    }

    private static void hasNoDevice() {
        CHECKS.about("1: No devices");
        PushNotices x = new PushNotices();
        CHECKS.index("3", () -> x.setOnline(0, true));
        CHECKS.index("4", () -> x.setDozing(0, true));
        CHECKS.index("5", () -> x.setQuiet(0, 0, 0));
        CHECKS.index("6", () -> x.join(0, 0, true));
        CHECKS.index("7", () -> x.kill(0));
        CHECKS.index("9", () -> x.isQuiet(0));
        x.send(0, NONE, false, 1);
        CHECKS.index("12", () -> x.read(0, 0));
        CHECKS.index("18", () -> x.badge(0));
        CHECKS.index("19", () -> x.waiting(0));
        CHECKS.index("20", () -> x.quota(0));
    }

    private static void hasNoNotice() {
        CHECKS.about("1: No .. notices");
        PushNotices x = Made.withDevices(1);
        CHECKS.index("12", () -> x.read(0, 0));
        CHECKS.index("14", () -> x.stands(0));
        CHECKS.index("15", () -> x.waitsFor(0));
        CHECKS.index("16", () -> x.deliveredTo(0));
        CHECKS.index("the number NONE is no notice", () -> x.stands(NONE));
    }

    private static void hasNoKey() {
        CHECKS.about("17: NONE if there is none");
        PushNotices x = new PushNotices();
        for (int user = 0; user < 8; user++) {
            for (int key = 0; key < 10; key++) {
                same("user " + user + ", key " + key, NONE, x.standing(user, key));
            }
        }
        x.send(3, 4, false, 5);
        same("sent", 0, x.standing(3, 4));
        same("the key before", NONE, x.standing(3, 3));
        same("the key behind", NONE, x.standing(3, 5));
        same("the user before", NONE, x.standing(2, 4));
        same("the user behind", NONE, x.standing(4, 4));
    }

    private static void keepsNoKeyOfNone() {
        CHECKS.about("NONE = -1: There is none: no key");
        PushNotices x = Made.withAllUsers();
        for (int user = 0; user < 8; user++) {
            x.send(user, 9, false, 5);
        }
        for (int user = 0; user < 8; user++) {
            x.send(user, NONE, false, 5);
            x.send(user, NONE, false, 5);
        }
        for (int user = 0; user < 8; user++) {
            same("the key 9 of user " + user, user, x.standing(user, 9));
            same("the key 0 of user " + user, NONE, x.standing(user, 0));
            same("none replaces none", 3, x.badge(user));
        }
        CHECKS.argument("none is asked for", () -> x.standing(0, NONE));
    }

    private static void keepsNoKeyOfTopics() {
        CHECKS.about("Notices by topics have no key");
        PushNotices x = Made.withDevices(1);
        x.join(0, 0, true);
        x.send(0, 0, false, 5);
        x.sendBy(ANY, 0, 0, false, 5);
        x.sendBy(ANY, 0, 0, false, 5);
        same("the key stays with the one to the user", 0, x.standing(0, 0));
        same("all stand", 3, x.badge(0));
        x.send(0, 0, false, 5);
        same("only the one to the user is replaced", 3, x.badge(0));
        same("it does not stand", false, x.stands(0));
    }

    private static void losesItsKey() {
        CHECKS.about("17: the notice .. that .. stands; NONE if there is none any more");
        PushNotices x = Made.withDevices(1);
        x.send(0, 0, false, 2);
        x.send(0, 1, false, 2);
        x.read(0, 1);
        same("read", NONE, x.standing(0, 1));
        same("the other key stands", 0, x.standing(0, 0));
        x.pass(2);
        same("fallen", NONE, x.standing(0, 0));
        x.send(0, 0, false, 5);
        x.send(0, 0, false, 1);
        x.pass(1);
        same("the replacing one fell before the replaced one would have", NONE, x.standing(0, 0));
    }

    private static void passesWithNothing() {
        CHECKS.about("21: how many deliveries there were in them; none");
        PushNotices x = new PushNotices();
        same("no device", 0, x.pass(3000));
        x.send(0, NONE, false, 10000);
        same("a notice, no device", 0, x.pass(3000));
        x.addDevice(0, 0);
        same("a device, none waits for it", 0, x.pass(3000));
        x.setOnline(0, false);
        x.send(0, NONE, true, 3001);
        same("one waits for a device offline", 0, x.pass(3000));
        same("it still waits", 1, x.waiting(0));
        x.setOnline(0, true);
        same("all is delivered", 0, x.pass(3000));
        same("the clock", 15000, x.clock());
    }

    private static void sendsToNobody() {
        CHECKS.about("10: Sends a notice to a user; one without devices");
        PushNotices x = new PushNotices();
        same("number", 0, x.send(0, 4, false, 2));
        x.addDevice(1, 0);
        same("number", 1, x.send(0, 5, true, 2));
        same("waits nowhere", 0, x.waitsFor(0) | x.waitsFor(1));
        same("was delivered nowhere", 0, x.deliveredTo(0) | x.deliveredTo(1));
        same("stands", true, x.stands(0) && x.stands(1));
        same("has its key", 0, x.standing(0, 4));
        x.addDevice(0, 0);
        same("does not come to a later device", 0, x.waitsFor(0) | x.deliveredTo(0));
        CHECKS.state("is not read", () -> x.read(1, 0));
        same("is replaced", 2, x.send(0, 4, false, 2));
        same("stands no more", false, x.stands(0));
    }

    private static void sendsByTopicsToNobody() {
        CHECKS.about("11: Sends a notice by a condition of topics; that none fulfils");
        PushNotices x = new PushNotices();
        same("no device", 0, x.sendBy(ANY, 0, 5, false, 2));
        x.addDevice(0, 0);
        for (int condition = BOTH; condition <= BUT; condition++) {
            int notice = x.sendBy(condition, 0, 5, false, 2);
            same("no topic joined", 0, x.waitsFor(notice) | x.deliveredTo(notice));
            same("stands", true, x.stands(notice));
        }
        x.join(0, 0, true);
        same("one of both", 0, x.deliveredTo(x.sendBy(BOTH, 0, 5, false, 2)));
        same("one but itself", 0, x.deliveredTo(x.sendBy(BUT, 0, 0, false, 2)));
        x.join(0, 0, false);
        same("left again", 0, x.deliveredTo(x.sendBy(ANY, 0, 0, false, 2)));
    }

    private static void deliversNothing() {
        CHECKS.about("3, 4, 5: how many notices are delivered by that; none");
        PushNotices x = Made.withDevices(2);
        for (int again = 0; again < 2; again++) {
            same("offline", 0, x.setOnline(0, false));
        }
        for (int again = 0; again < 2; again++) {
            same("online", 0, x.setOnline(0, true));
        }
        same("dozing", 0, x.setDozing(0, true) + x.setDozing(0, true));
        same("awake", 0, x.setDozing(0, false) + x.setDozing(0, false));
        same("quiet", 0, x.setQuiet(0, 0, 1) + x.setQuiet(0, 0, 0));
        x.setOnline(0, false);
        x.send(0, NONE, false, 5);
        same("what waits for another device", 0, x.setOnline(1, true));
        same("still waits", 1, x.waitsFor(0));
    }

    private static void killsWithoutWaiting() {
        CHECKS.about("7: how many notices waited for it; none");
        PushNotices x = Made.withDevices(3);
        same("no notice", 0, x.kill(0));
        x.send(0, NONE, false, 5);
        same("all was delivered", 0, x.kill(1));
        x.setOnline(2, false);
        x.send(0, NONE, false, 5);
        x.pass(5);
        same("all has fallen", 0, x.kill(2));
    }

    private static void readsWithoutWaiting() {
        CHECKS.about("12: for how many devices it waited; none");
        PushNotices x = Made.withDevices(2);
        x.send(0, NONE, false, 5);
        same("delivered to both", 0, x.read(0, 0));
        x.setOnline(1, false);
        x.send(0, NONE, false, 5);
        x.kill(1);
        same("the other token is dead", 0, x.read(0, 1));
    }

    private static void hasNoBadge() {
        CHECKS.about("18, 19: how many notices; none");
        PushNotices x = Made.withDevices(2);
        same("no notice: badge", 0, x.badge(0));
        same("no notice: waiting", 0, x.waiting(0));
        x.setOnline(0, false);
        x.send(0, NONE, false, 5);
        same("one waits: no badge", 0, x.badge(0));
        same("one was delivered: none waits", 0, x.waiting(1));
        x.read(1, 0);
        same("read: badge", 0, x.badge(1));
        same("read: waiting", 0, x.waiting(0));
    }

    private static void startsDevices() {
        CHECKS.about("At first a device is online, is not dozing, has no quiet hours, has joined no topic,"
                + " and its token is alive");
        PushNotices x = Made.at(7);
        same("online and awake: a normal one comes outside of a window", 1, x.deliveredTo(x.send(0, NONE, false, 9)));
        for (int hour = 0; hour < 24; hour++) {
            same("no quiet hours", false, x.isQuiet(0));
            x.pass(60);
        }
        for (int topic = 0; topic < 6; topic++) {
            same("no topic", false, x.join(0, topic, false));
        }
        same("quota", 3, x.quota(0));
        same("alive", 0, x.kill(0));
    }

    private static void keepsConstants() {
        CHECKS.about("The constants");
        same("NONE", -1, PushNotices.NONE);
        same("BOTH", 0, PushNotices.BOTH);
        same("ANY", 1, PushNotices.ANY);
        same("BUT", 2, PushNotices.BUT);
    }

    private static void keepsObjectsApart() {
        CHECKS.about("1: A new object; beside one that is in use");
        PushNotices used = Made.withNotices(3);
        used.send(0, 0, false, 5);
        used.pass(3);
        PushNotices x = new PushNotices();
        same("devices", 0, x.devices());
        same("sent", 0, x.sent());
        same("clock", 0, x.clock());
        same("deliveries", 0, x.deliveries());
        same("key", NONE, x.standing(0, 0));
        same("the other one's", 3, used.standing(0, 0));
    }
}
