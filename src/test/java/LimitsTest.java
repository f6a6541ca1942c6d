/**
 * Each limit of the document one before it, at it and behind it: 16 devices, 120 notices, the clock at
 * 100000, three high notices a day for a dozing device, and 512 calls.
 */
final class LimitsTest {
    private static final int NONE = PushNotices.NONE;
    private static final int ANY = PushNotices.ANY;
    private static final int LAST_MINUTE = 100000;
    private static final Checks CHECKS = new Checks("LimitsTest");

    public static void main(String[] args) {
        holds16Devices();
        sends16DevicesTheirNotices();
        countsDeadDevices();
        sends120Notices();
        sends120ByTopics();
        countsEndedNotices();
        countsNoticesToNobody();
        delivers120To16();
        endsTheClockAt100000();
        endsTheClockInOneStep();
        refusesLongStepsAtTheEnd();
        livesAtTheLastMinute();
        outlivesTheClock();
        givesThreeHighOnes();
        givesThreeHighOnesAtOnce();
        countsOnlyHighOnes();
        countsOnlyWhileDozing();
        countsOverNaps();
        countsWhateverIsSet();
        countsForEachDevice();
        givesThreeOnEachDay();
        answersAll512Calls();
        CHECKS.end();
    }

    private static void same(String what, Object due, Object got) {
        CHECKS.same(what, due, got);
    }

    // 16 devices

    private static void holds16Devices() {
        CHECKS.about("Devices are numbered from 0; there are at most 16");
        PushNotices x = new PushNotices();
        same("the first number", 0, x.addDevice(0, 0));
        for (int device = 1; device < 15; device++) {
            same("number", device, x.addDevice(0, 0));
        }
        same("one before the limit", 15, x.devices());
        same("the last number", 15, x.addDevice(0, 0));
        same("at the limit", 16, x.devices());
        CHECKS.state("behind the limit", () -> x.addDevice(0, 0));
        CHECKS.state("behind it again, another user and zone", () -> x.addDevice(7, 840));
        same("still at the limit", 16, x.devices());
        CHECKS.index("no device 16", () -> x.waiting(16));
    }

    private static void sends16DevicesTheirNotices() {
        CHECKS.about("15, 16: bit d stands for the device d");
        PushNotices x = Made.withDevices(16);
        for (int device = 0; device < 16; device++) {
            x.setOnline(device, false);
        }
        int notice = x.send(0, NONE, false, 10);
        same("all wait", 0xFFFF, x.waitsFor(notice));
        for (int device = 0; device < 16; device++) {
            same("delivered to " + device, 1, x.setOnline(device, true));
            same("the devices so far", (2 << device) - 1, x.deliveredTo(notice));
            same("the devices still", 0xFFFF & -2 << device, x.waitsFor(notice));
        }
    }

    private static void countsDeadDevices() {
        CHECKS.about("2: if there are 16; a dead device is one of them");
        PushNotices x = Made.withDevices(16);
        for (int device = 0; device < 16; device++) {
            x.kill(device);
        }
        same("devices", 16, x.devices());
        CHECKS.state("behind the limit", () -> x.addDevice(0, 0));
    }

    // 120 notices

    private static void sends120Notices() {
        CHECKS.about("Notices are numbered from 0; at most 120 are sent");
        PushNotices x = Made.withDevices(1);
        same("the first number", 0, x.send(0, NONE, false, 10));
        for (int notice = 1; notice < 119; notice++) {
            same("number", notice, x.send(0, NONE, false, 10));
        }
        same("one before the limit", 119, x.sent());
        same("the last number", 119, x.send(0, NONE, true, 10));
        same("at the limit", 120, x.sent());
        CHECKS.state("behind the limit, to a user", () -> x.send(0, NONE, false, 10));
        CHECKS.state("behind the limit, by topics", () -> x.sendBy(ANY, 0, 0, false, 10));
        same("still at the limit", 120, x.sent());
        same("all are delivered", 120, x.badge(0));
        same("the last one stands", true, x.stands(119));
        CHECKS.index("no notice 120", () -> x.stands(120));
        same("none waits", 0, x.waiting(0));
        same("none waited", 0, x.kill(0));
    }

    private static void sends120ByTopics() {
        CHECKS.about("11: if 120 have been sent");
        PushNotices x = Made.withDevices(1);
        x.join(0, 3, true);
        for (int notice = 0; notice < 119; notice++) {
            same("number", notice, x.sendBy(ANY, 3, 3, false, 10));
        }
        same("the last number", 119, x.sendBy(ANY, 3, 3, false, 10));
        CHECKS.state("behind the limit, by topics", () -> x.sendBy(ANY, 3, 3, false, 10));
        CHECKS.state("behind the limit, to a user", () -> x.send(0, NONE, false, 10));
        same("all are delivered", 120, x.badge(0));
    }

    private static void countsEndedNotices() {
        CHECKS.about("10, 11: if 120 have been sent; one that has ended was sent too");
        PushNotices x = Made.withDevices(1);
        for (int notice = 0; notice < 40; notice++) {
            x.send(0, 5, false, 10);
            x.read(0, x.send(0, NONE, false, 10));
            x.send(0, NONE, false, 1);
        }
        x.pass(10);
        same("none stands", 0, x.badge(0));
        same("at the limit", 120, x.sent());
        CHECKS.state("behind the limit, to a user", () -> x.send(0, 5, false, 10));
        CHECKS.state("behind the limit, by topics", () -> x.sendBy(ANY, 0, 0, false, 10));
    }

    private static void countsNoticesToNobody() {
        CHECKS.about("10, 11: if 120 have been sent; one to no device was sent too");
        PushNotices x = new PushNotices();
        for (int notice = 0; notice < 120; notice += 2) {
            same("to a user without devices", notice, x.send(7, NONE, true, 1));
            same("by a topic that none joined", notice + 1, x.sendBy(ANY, 0, 5, true, 1));
        }
        CHECKS.state("behind the limit", () -> x.send(7, NONE, true, 1));
    }

    private static void delivers120To16() {
        CHECKS.about("23: how many deliveries there have been; as many as can be");
        PushNotices x = Made.withDevices(16);
        for (int notice = 0; notice < 120; notice++) {
            x.send(0, NONE, notice % 2 == 0, 10);
        }
        same("120 to each of 16", 1920, x.deliveries());
        same("the last one came to all", 0xFFFF, x.deliveredTo(119));
    }

    // the clock 100000

    private static void endsTheClockAt100000() {
        CHECKS.about("21: if the clock would be above 100000");
        PushNotices x = Made.at(LAST_MINUTE - 2);
        CHECKS.state("three minutes more", () -> x.pass(3));
        same("stays", LAST_MINUTE - 2, x.clock());
        same("one before the limit", 0, x.pass(1));
        same("one before the limit", LAST_MINUTE - 1, x.clock());
        CHECKS.state("two minutes more", () -> x.pass(2));
        same("at the limit", 0, x.pass(1));
        same("at the limit", LAST_MINUTE, x.clock());
        CHECKS.state("behind the limit", () -> x.pass(1));
        CHECKS.state("far behind the limit", () -> x.pass(3000));
        same("still at the limit", LAST_MINUTE, x.clock());
    }

    private static void endsTheClockInOneStep() {
        CHECKS.about("21: if the clock would be above 100000; up to it is right");
        PushNotices x = Made.at(LAST_MINUTE - 3000);
        same("3000 minutes", 0, x.pass(3000));
        same("at the limit", LAST_MINUTE, x.clock());
        PushNotices y = Made.at(LAST_MINUTE - 2999);
        CHECKS.state("3000 minutes, one above", () -> y.pass(3000));
        same("stays", LAST_MINUTE - 2999, y.clock());
    }

    private static void refusesLongStepsAtTheEnd() {
        CHECKS.about("21: minutes: 1 to 3000; the argument is looked at before the clock");
        PushNotices x = Made.at(LAST_MINUTE);
        CHECKS.argument("0", () -> x.pass(0));
        CHECKS.argument("-1", () -> x.pass(-1));
        CHECKS.argument("3001", () -> x.pass(3001));
        CHECKS.argument("the greatest int", () -> x.pass(Integer.MAX_VALUE));
        CHECKS.argument("the least int", () -> x.pass(Integer.MIN_VALUE));
        same("stays", LAST_MINUTE, x.clock());
    }

    private static void livesAtTheLastMinute() {
        CHECKS.about("22: the clock; at its end all calls but pass go on");
        PushNotices x = Made.at(LAST_MINUTE);
        same("a device", 1, x.addDevice(0, 840));
        same("local time 40 of the minute 640 of the day", 0, x.setQuiet(1, 40, 41));
        same("is quiet", true, x.isQuiet(1));
        same("a notice", 0, x.send(0, NONE, false, 1));
        same("is delivered", 1, x.deliveredTo(0));
        same("waits", 2, x.waitsFor(0));
        same("dozes outside of a window", 0, x.setDozing(1, true) + x.setQuiet(1, 0, 0));
        same("awake", 1, x.setDozing(1, false));
        same("is read", 0, x.read(1, 0));
    }

    private static void outlivesTheClock() {
        CHECKS.about("10: lifetime: 1 to 10000; it may end behind the clock's end");
        PushNotices x = Made.at(LAST_MINUTE - 1);
        x.send(0, 0, false, 1);
        x.send(0, 1, false, 2);
        x.send(0, 2, false, 10000);
        x.pass(1);
        same("ends with the clock", false, x.stands(0));
        same("ends one behind it", true, x.stands(1));
        same("ends long behind it", 2, x.standing(0, 2));
        same("badge", 2, x.badge(0));
    }

    // three high notices a day

    private static PushNotices dozing(int minute) {
        PushNotices x = Made.at(minute);
        x.setDozing(0, true);
        return x;
    }

    private static void givesThreeHighOnes() {
        CHECKS.about("if it is high, .. fewer than 3 high notices have been delivered to it while it was dozing");
        PushNotices x = dozing(7);
        same("none yet", 3, x.quota(0));
        for (int sent = 0; sent < 2; sent++) {
            same("delivered", 1, x.deliveredTo(x.send(0, NONE, true, 100)));
        }
        same("one before the limit", 1, x.quota(0));
        same("the third is delivered", 1, x.deliveredTo(x.send(0, NONE, true, 100)));
        same("at the limit", 0, x.quota(0));
        same("the fourth is not", 0, x.deliveredTo(x.send(0, NONE, true, 100)));
        same("the fourth waits", 1, x.waitsFor(3));
        same("still at the limit", 0, x.quota(0));
        same("nor is the fifth", 0, x.deliveredTo(x.send(0, NONE, true, 100)));
        same("a window opens to none of them", 0, x.pass(60));
    }

    private static void givesThreeHighOnesAtOnce() {
        CHECKS.about("device by device, for each its notices by rising numbers");
        for (int waiting = 2; waiting <= 4; waiting++) {
            PushNotices x = dozing(7);
            x.setOnline(0, false);
            for (int sent = 0; sent < waiting; sent++) {
                x.send(0, NONE, true, 100);
            }
            same("of " + waiting, Math.min(3, waiting), x.setOnline(0, true));
            same("left of the quota", 3 - Math.min(3, waiting), x.quota(0));
            same("the first ones", 1, x.deliveredTo(0) & x.deliveredTo(1));
            same("the last one", waiting == 4 ? 0 : 1, x.deliveredTo(waiting - 1));
        }
    }

    private static void countsOnlyHighOnes() {
        CHECKS.about("20: how many high notices can still be delivered; normal ones don't count");
        PushNotices x = dozing(0);
        for (int sent = 0; sent < 4; sent++) {
            same("a normal one in a window", 1, x.deliveredTo(x.send(0, NONE, false, 100)));
        }
        same("the quota", 3, x.quota(0));
        for (int sent = 0; sent < 4; sent++) {
            x.send(0, NONE, true, 100);
        }
        same("the quota is spent", 0, x.quota(0));
        same("a normal one comes with the quota spent", 1, x.deliveredTo(x.send(0, NONE, false, 100)));
    }

    private static void countsOnlyWhileDozing() {
        CHECKS.about("delivered to it while it was dozing; those to a device awake don't count");
        PushNotices x = Made.at(7);
        for (int sent = 0; sent < 4; sent++) {
            same("awake", 1, x.deliveredTo(x.send(0, NONE, true, 100)));
        }
        same("the quota", 3, x.quota(0));
        x.setDozing(0, true);
        for (int sent = 0; sent < 3; sent++) {
            same("dozing", 1, x.deliveredTo(x.send(0, NONE, true, 100)));
        }
        x.send(0, NONE, true, 100);
        same("awake with the quota spent, what waits comes", 1, x.setDozing(0, false));
        same("awake with the quota spent, all comes", 1, x.deliveredTo(x.send(0, NONE, true, 100)));
        same("the quota stays spent, not overspent", 0, x.quota(0));
    }

    private static void countsOverNaps() {
        CHECKS.about("on this day; a nap does not begin a new count");
        PushNotices x = dozing(7);
        x.send(0, NONE, true, 100);
        x.setDozing(0, false);
        x.send(0, NONE, true, 100);
        x.setDozing(0, true);
        same("one is spent", 2, x.quota(0));
        x.send(0, NONE, true, 100);
        x.send(0, NONE, true, 100);
        same("three are spent", 0, x.deliveredTo(x.send(0, NONE, true, 100)));
    }

    private static void countsWhateverIsSet() {
        CHECKS.about("on this day; no other call begins a new count, nor ends it");
        PushNotices x = dozing(7);
        x.send(0, NONE, true, 100);
        x.send(0, NONE, true, 1);
        x.setOnline(0, false);
        x.setOnline(0, true);
        x.setQuiet(0, 5, 500);
        x.setQuiet(0, 5, 5);
        x.join(0, 0, true);
        x.read(0, 0);
        x.pass(1);
        same("two are spent, whether they stand or not", 1, x.quota(0));
        x.kill(0);
        same("and with a dead token", 1, x.quota(0));
    }

    private static void countsForEachDevice() {
        CHECKS.about("20: how many high notices can still be delivered to a device; each has its own");
        PushNotices x = Made.withDevices(3);
        x.setDozing(0, true);
        x.setDozing(2, true);
        x.setOnline(2, false);
        for (int sent = 0; sent < 3; sent++) {
            x.send(0, NONE, true, 100);
        }
        same("the one dozing", 0, x.quota(0));
        same("the one awake", 3, x.quota(1));
        same("the one offline", 3, x.quota(2));
        same("the fourth comes to the one awake", 2, x.deliveredTo(x.send(0, NONE, true, 100)));
        same("the one offline gets its own three", 3, x.setOnline(2, true));
        same("of which the fourth is none", 2, x.deliveredTo(3));
    }

    private static void givesThreeOnEachDay() {
        CHECKS.about("on this day (minute / 1440); as many days as pass");
        PushNotices x = dozing(1439);
        for (int sent = 0; sent < 11; sent++) {
            x.send(0, NONE, true, 10000);
        }
        same("three on the day 0", 3, x.deliveries());
        same("three on the day 1", 3, x.pass(1));
        same("no more on it", 0, x.pass(1439));
        same("three on the day 2, two on the day 3", 5, x.pass(1441));
        same("one is left", 1, x.quota(0));
        same("none waits", 0, x.waiting(0));
    }

    // 512 calls

    private static void answersAll512Calls() {
        CHECKS.about("An object is used for at most 512 calls after it has been made");
        PushNotices x = Made.withDevices(1);
        x.setOnline(0, false);
        for (int notice = 0; notice < 120; notice++) {
            x.send(0, NONE, true, 10000);
        }
        for (int call = 123; call < 511; call++) {
            same("call " + call, 120, x.waiting(0));
        }
        same("call 511", 120, x.setOnline(0, true));
        same("call 512", 120, x.deliveries());
    }
}
