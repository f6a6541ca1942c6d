/** What wraps around: quiet hours over midnight, local times out of the day, and the day itself. */
final class WrapsTest {
    private static final int NONE = PushNotices.NONE;
    private static final int DAY = 1440;
    /** So many minutes are asked of one object, which is used for at most 512 calls. */
    private static final int MINUTES_OF_ONE = 240;
    private static final Checks CHECKS = new Checks("WrapsTest");

    public static void main(String[] args) {
        tellsLocalTimes();
        tellsLocalTimesFarOff();
        leavesTheLastMinuteOut();
        goesOverMidnight();
        endsAtMidnight();
        beginsAtMidnight();
        leavesOneMinuteOfTheDay();
        hasNoneWithBothTheSame();
        endsThemWithBothTheSame();
        isQuietInWhateverState();
        deliversBehindMidnight();
        deliversAtMidnight();
        deliversInTheOneMinute();
        keepsQuietThroughWindows();
        beginsNewDays();
        beginsNewDaysByTheClock();
        beginsNewDaysAfterManyDays();
        opensWindows();
        opensWindowsByTheClock();
        opensWindowsAtMidnight();
        CHECKS.end();
    }

    private static void same(String what, Object due, Object got) {
        CHECKS.same(what, due, got);
    }

    private static PushNotices inZone(int offset, int minute) {
        PushNotices x = new PushNotices();
        x.addDevice(0, offset);
        Made.passAll(x, minute);
        return x;
    }

    // local times

    private static void localTime(int due, int offset, int minute) {
        PushNotices x = inZone(offset, minute);
        String what = "the minute " + minute + " with the offset " + offset;
        x.setQuiet(0, due, (due + 1) % DAY);
        same(what + ", that one alone", true, x.isQuiet(0));
        x.setQuiet(0, (due + 1) % DAY, due);
        same(what + ", all but that one", false, x.isQuiet(0));
    }

    private static void tellsLocalTimes() {
        CHECKS.about("the local time of a minute is the minute plus the offset, modulo 1440, from 0 on");
        localTime(0, 0, 0);
        localTime(1, 1, 0);
        localTime(1439, -1, 0);
        localTime(720, -720, 0);
        localTime(840, 840, 0);
        localTime(0, -1, 1);
        localTime(1439, -720, 719);
        localTime(0, -720, 720);
        localTime(1439, 840, 599);
        localTime(0, 840, 600);
        localTime(1439, 0, 1439);
        localTime(0, 0, 1440);
        localTime(0, 1, 1439);
        localTime(839, 840, 1439);
        localTime(719, -720, 1439);
    }

    private static void tellsLocalTimesFarOff() {
        CHECKS.about("modulo 1440, also after many days");
        localTime(0, -720, 720 + 60 * DAY);
        localTime(1439, -720, 719 + 60 * DAY);
        localTime(100000 % DAY, 0, 100000);
        localTime(40, 840, 100000);
        localTime(1360, 720, 100000);
    }

    // quiet hours

    /** Tells the quiet hours of a device, minute by minute of its first day, as the borders in them. */
    private static String bordersOf(int from, int to) {
        StringBuilder borders = new StringBuilder();
        boolean was = false;
        for (int minute = 0; minute < DAY; minute += MINUTES_OF_ONE) {
            PushNotices x = Made.at(minute);
            x.setQuiet(0, from, to);
            for (int later = 0; later < MINUTES_OF_ONE; later++) {
                boolean is = x.isQuiet(0);
                if (is != was) {
                    borders.append(is ? " from " : " to ").append(minute + later);
                }
                was = is;
                x.pass(1);
            }
        }
        return borders.toString();
    }

    private static void leavesTheLastMinuteOut() {
        CHECKS.about("Quiet hours are from a local time to another one, that one not included");
        same("600 to 700", " from 600 to 700", bordersOf(600, 700));
        same("600 to 601", " from 600 to 601", bordersOf(600, 601));
        same("1 to 1439", " from 1 to 1439", bordersOf(1, 1439));
    }

    private static void goesOverMidnight() {
        CHECKS.about("they can go over midnight");
        same("700 to 600", " from 0 to 600 from 700", bordersOf(700, 600));
        same("1439 to 1", " from 0 to 1 from 1439", bordersOf(1439, 1));
    }

    private static void endsAtMidnight() {
        CHECKS.about("they can go over midnight; or end at it");
        same("1439 to 0", " from 1439", bordersOf(1439, 0));
        same("1 to 0", " from 1", bordersOf(1, 0));
    }

    private static void beginsAtMidnight() {
        CHECKS.about("they can go over midnight; or begin at it");
        same("0 to 1", " from 0 to 1", bordersOf(0, 1));
        same("0 to 1439", " from 0 to 1439", bordersOf(0, 1439));
    }

    private static void leavesOneMinuteOfTheDay() {
        CHECKS.about("Quiet hours are from a local time to another one; all day but one minute");
        same("601 to 600", " from 0 to 600 from 601", bordersOf(601, 600));
        same("1439 to 1438", " from 0 to 1438 from 1439", bordersOf(1439, 1438));
    }

    private static void hasNoneWithBothTheSame() {
        CHECKS.about("with both the same there are none");
        for (int time : new int[] {0, 1, 600, 1438, 1439}) {
            same("both " + time, "", bordersOf(time, time));
        }
    }

    private static void endsThemWithBothTheSame() {
        CHECKS.about("with both the same there are none: what waited is delivered");
        for (int time : new int[] {0, 99, 100, 101, 1439}) {
            PushNotices x = Made.at(100);
            x.setQuiet(0, 100, 101);
            x.send(0, NONE, false, 100);
            same("waits", 1, x.waiting(0));
            same("both " + time, 1, x.setQuiet(0, time, time));
            same("is delivered at once", 1, x.deliveredTo(x.send(0, NONE, false, 100)));
        }
    }

    private static void isQuietInWhateverState() {
        CHECKS.about("9: Tells whether a device is in its quiet hours; whatever else it is");
        PushNotices x = Made.at(100);
        x.setQuiet(0, 1430, 101);
        x.setOnline(0, false);
        same("offline", true, x.isQuiet(0));
        x.setDozing(0, true);
        same("offline and dozing", true, x.isQuiet(0));
        x.setOnline(0, true);
        same("dozing", true, x.isQuiet(0));
        x.kill(0);
        same("dead", true, x.isQuiet(0));
        x.pass(1);
        same("at their end", false, x.isQuiet(0));
    }

    private static void deliversBehindMidnight() {
        CHECKS.about("the device is not in its quiet hours; which go over midnight");
        PushNotices x = Made.at(1319);
        x.setQuiet(0, 1320, 420);
        same("before", 1, x.deliveredTo(x.send(0, NONE, false, 9000)));
        x.pass(1);
        same("at their beginning", 0, x.deliveredTo(x.send(0, NONE, false, 9000)));
        same("up to midnight", 0, x.pass(119));
        same("midnight", 0, x.pass(1));
        same("up to their last minute", 0, x.pass(419));
        same("at their end", 1, x.pass(1));
        same("behind their end", 1, x.deliveredTo(x.send(0, NONE, false, 9000)));
    }

    private static void deliversAtMidnight() {
        CHECKS.about("the device is not in its quiet hours; which end at its midnight");
        for (int offset : new int[] {-720, -1, 0, 1, 840}) {
            PushNotices x = inZone(offset, 2000);
            int local = Math.floorMod(2000 + offset, DAY);
            x.setQuiet(0, local, 0);
            x.send(0, NONE, false, 9000);
            same("the minute before it, offset " + offset, 0, x.pass(DAY - local - 1));
            same("at it, offset " + offset, 1, x.pass(1));
        }
    }

    private static void deliversInTheOneMinute() {
        CHECKS.about("the device is not in its quiet hours; but for one minute of the day");
        PushNotices x = Made.at(101);
        x.setQuiet(0, 101, 100);
        x.send(0, NONE, false, 1440);
        x.send(0, NONE, false, 1439);
        same("the minute before it", 0, x.pass(1438));
        same("that one, the shorter lifetime has ended in it", 1, x.pass(1));
        same("the longer one came", 1, x.deliveredTo(0));
        PushNotices y = Made.at(101);
        y.setQuiet(0, 101, 100);
        y.send(0, NONE, false, 9000);
        same("amid one long pass", 1, y.pass(3000));
    }

    private static void keepsQuietThroughWindows() {
        CHECKS.about("not in its quiet hours, and besides .. the minute is a multiple of 60");
        PushNotices x = Made.at(30);
        x.setDozing(0, true);
        x.setQuiet(0, 60, 120);
        x.send(0, NONE, false, 9000);
        same("a window at the beginning of the quiet hours", 0, x.pass(30));
        same("behind it, up to the end", 0, x.pass(59));
        same("a window at the end of the quiet hours", 1, x.pass(1));
        x.setQuiet(0, 60, 121);
        x.send(0, NONE, true, 9000);
        x.setQuiet(0, 120, 121);
        same("a normal one in the quiet minute of the window", 0, x.deliveredTo(x.send(0, NONE, false, 9000)));
        same("behind the window", 0, x.pass(59));
        same("the next window", 1, x.pass(1));
    }

    // days

    private static PushNotices spent(int offset, int minute) {
        PushNotices x = inZone(offset, minute);
        x.setDozing(0, true);
        for (int sent = 0; sent < 4; sent++) {
            x.send(0, NONE, true, 10000);
        }
        return x;
    }

    private static void beginsNewDays() {
        CHECKS.about("on this day (minute / 1440)");
        PushNotices x = spent(0, 0);
        same("spent in the first minute", 0, x.quota(0));
        same("the last minute of the day", 0, x.pass(1439));
        same("spent in the last minute", 0, x.quota(0));
        same("the first minute of the next day", 1, x.pass(1));
        same("one of it is spent", 2, x.quota(0));
        PushNotices y = spent(0, 1439);
        same("spent in the last minute", 0, y.quota(0));
        same("a minute later is another day", 1, y.pass(1));
        same("one of it is spent", 2, y.quota(0));
    }

    private static void beginsNewDaysByTheClock() {
        CHECKS.about("on this day (minute / 1440), not the local one");
        for (int offset : new int[] {-720, -1, 1, 840}) {
            PushNotices x = spent(offset, 0);
            same("the last minute of the day, offset " + offset, 0, x.pass(1439));
            same("the next day, offset " + offset, 1, x.pass(1));
        }
    }

    private static void beginsNewDaysAfterManyDays() {
        CHECKS.about("20: on this day; whichever day it is");
        PushNotices x = spent(0, 10);
        x.setOnline(0, false);
        Made.passAll(x, 5 * DAY);
        same("offline for days, the quota does not add up", 3, x.quota(0));
        same("one waited", 1, x.setOnline(0, true));
        same("spent on a later day", 2, x.quota(0));
        Made.passAll(x, 63 * DAY);
        same("the day 68", 3, x.quota(0));
        for (int sent = 0; sent < 4; sent++) {
            x.send(0, NONE, true, 10000);
        }
        same("spent on the day 68", 0, x.quota(0));
        same("its last minute", 0, x.pass(1429));
        same("the day 69", 1, x.pass(1));
    }

    // windows

    private static void opensWindows() {
        CHECKS.about("it is dozing and the minute is a multiple of 60");
        for (int window : new int[] {0, 60, 120, 1380, 1440, 99960}) {
            PushNotices x = Made.at(Math.max(0, window - 1));
            x.setDozing(0, true);
            if (window > 0) {
                same("the minute before " + window, 0, x.deliveredTo(x.send(0, NONE, false, 500)));
                same("the minute " + window, 1, x.pass(1));
            }
            int within = x.send(0, NONE, false, 500);
            same("sent in the minute " + window, 1, x.deliveredTo(within));
            x.pass(1);
            int behind = x.send(0, NONE, false, 500);
            same("the minute behind " + window, 0, x.deliveredTo(behind));
        }
    }

    private static void opensWindowsByTheClock() {
        CHECKS.about("the minute is a multiple of 60, not the local time");
        PushNotices x = inZone(30, 1);
        x.setDozing(0, true);
        x.send(0, NONE, false, 500);
        same("the local time 60", 0, x.pass(29));
        same("the minute before the window", 0, x.pass(29));
        same("the minute 60", 1, x.pass(1));
    }

    private static void opensWindowsAtMidnight() {
        CHECKS.about("the minute is a multiple of 60; the first one of a day is");
        PushNotices x = Made.at(1381);
        x.setDozing(0, true);
        x.send(0, NONE, false, 500);
        same("the last minute of the day", 0, x.pass(58));
        same("the first one of the next", 1, x.pass(1));
    }
}
