/** Promises 21 to 23: time. */
final class TimeTest {
    private static final int NONE = PushNotices.NONE;
    private static final Checks CHECKS = new Checks("TimeTest");

    public static void main(String[] args) {
        refusesMinutes();
        endsAt100000();
        fallsBeforeItDelivers();
        deliversWithinOneCall();
        deliversAtEndOfQuietHours();
        findsShortChances();
        sharesQuotaOverDays();
        countsDeliveries();
        CHECKS.end();
    }

    private static void same(String what, Object due, Object got) {
        CHECKS.same(what, due, got);
    }

    private static void refusesMinutes() {
        PushNotices x = new PushNotices();
        CHECKS.argument("21: 0 minutes", () -> x.pass(0));
        CHECKS.argument("21: -1 minutes", () -> x.pass(-1));
        CHECKS.argument("21: 3001 minutes", () -> x.pass(3001));
        CHECKS.argument("21: most of all", () -> x.pass(Integer.MAX_VALUE));
        same("22: the clock stays", 0, x.clock());
        x.pass(1);
        same("22: one minute", 1, x.clock());
        x.pass(3000);
        same("22: 3000 more", 3001, x.clock());
    }

    private static void endsAt100000() {
        PushNotices x = new PushNotices();
        for (int i = 0; i < 33; i++) {
            x.pass(3000);
        }
        x.addDevice(0, 0);
        x.setOnline(0, false);
        int notice = x.send(0, NONE, false, 1000);
        CHECKS.state("21: above 100000", () -> x.pass(1001));
        CHECKS.argument("21: the argument first", () -> x.pass(3001));
        same("22: the clock stays", 99000, x.clock());
        same("21: to 99999", 0, x.pass(999));
        same("14: stands", true, x.stands(notice));
        same("21: up to 100000", 0, x.pass(1));
        same("14: fallen", false, x.stands(notice));
        same("22: the last minute", 100000, x.clock());
        CHECKS.state("21: no minute more", () -> x.pass(1));
        CHECKS.argument("21: no minute at all", () -> x.pass(0));
        same("22: the clock stays at its end", 100000, x.clock());
        x.setOnline(0, true);
        int last = x.send(0, NONE, false, 10000);
        same("14: one that outlives the clock stands", true, x.stands(last));
        same("16: and is delivered", 1, x.deliveredTo(last));
    }

    private static void fallsBeforeItDelivers() {
        PushNotices x = new PushNotices();
        x.addDevice(0, 0);
        x.pass(1);
        x.setDozing(0, true);
        x.send(0, NONE, false, 59);
        x.send(0, NONE, false, 60);
        same("21: the one falls in the window, the other comes", 1, x.pass(59));
        same("16: the fallen one was not delivered", 0, x.deliveredTo(0));
        same("16: the other was", 1, x.deliveredTo(1));
    }

    private static void deliversWithinOneCall() {
        PushNotices x = new PushNotices();
        x.addDevice(0, 0);
        x.addDevice(0, 0);
        x.pass(10);
        x.setDozing(0, true);
        x.setQuiet(1, 5, 75);
        x.send(0, NONE, false, 51);
        x.send(0, NONE, false, 65);
        x.send(0, NONE, false, 66);
        same("21: three in the window, one behind the quiet hours", 4, x.pass(3000));
        same("16: in the window alone", 1, x.deliveredTo(0));
        same("16: fallen when the quiet hours end", 1, x.deliveredTo(1));
        same("16: to both", 3, x.deliveredTo(2));
        same("21: nothing more", 0, x.pass(3000));
    }

    private static void deliversAtEndOfQuietHours() {
        PushNotices x = new PushNotices();
        x.addDevice(0, 17);
        x.addDevice(0, -700);
        x.setQuiet(0, 1000, 500);
        x.setQuiet(1, 700, 800);
        x.send(0, NONE, false, 484);
        same("21: before the ends", 0, x.pass(59));
        same("21: the end in the one's zone", 1, x.pass(1));
        same("21: before the other end", 0, x.pass(422));
        same("21: the other end", 1, x.pass(1));
        x.send(0, NONE, false, 3000);
        same("21: at once", 4, x.deliveries());
        x.pass(500);
        x.setDozing(0, true);
        x.send(0, NONE, false, 3000);
        same("21: dozing, the quiet hours end at 483 and the window is at 540", 0, x.pass(1440 + 539 - 983));
        same("21: the window behind the quiet hours", 1, x.pass(1));
    }

    /** One device can take its notice in a single minute, amid a long pass. */
    private static void findsShortChances() {
        for (int quiet = 0; quiet < 16; quiet++) {
            PushNotices x = new PushNotices();
            for (int device = 0; device < 16; device++) {
                x.addDevice(device % 8, device - 8);
            }
            x.setQuiet(quiet, 1200, 100 + quiet);
            x.pass(70);
            x.send(quiet % 8, NONE, false, 38);
            x.send(quiet % 8, NONE, false, 39);
            same("21: the quiet hours end at 108, with the longer lifetime", 1, x.pass(1000));
            same("16: the shorter one fell", 0x101 << quiet % 8 & ~(1 << quiet), x.deliveredTo(0));
            same("16: the longer one came to both", 0x101 << quiet % 8, x.deliveredTo(1));
        }
    }

    private static void sharesQuotaOverDays() {
        PushNotices x = new PushNotices();
        x.addDevice(0, 600);
        x.setDozing(0, true);
        for (int i = 0; i < 10; i++) {
            x.send(0, NONE, true, 1440 * (1 + i / 7));
        }
        same("21: three on the second day, from the longer lifetimes", 3, x.pass(3000));
        same("16: the fourth fell with its day", 0, x.deliveredTo(3));
        same("16: the eighth came", 1, x.deliveredTo(7));
        same("20: a third day has begun", 3, x.quota(0));
    }

    private static void countsDeliveries() {
        PushNotices x = new PushNotices();
        x.addDevice(0, 0);
        x.addDevice(0, 0);
        same("23: none", 0, x.deliveries());
        x.send(0, 1, false, 5);
        same("23: one for each device", 2, x.deliveries());
        x.setOnline(0, false);
        x.send(0, 1, true, 5);
        same("23: only to the one", 3, x.deliveries());
        x.setOnline(0, true);
        same("23: later to the other", 4, x.deliveries());
        x.read(0, 1);
        x.kill(0);
        x.pass(5);
        same("23: an end takes none back", 4, x.deliveries());
    }
}
