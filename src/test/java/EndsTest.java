/**
 * Where a notice ends, by its lifetime, by being read or by being replaced, and where a device's token
 * does; and what is looked at first when several things come together.
 */
final class EndsTest {
    private static final int NONE = PushNotices.NONE;
    private static final int ANY = PushNotices.ANY;
    private static final Checks CHECKS = new Checks("EndsTest");

    public static void main(String[] args) {
        standsForItsLifetime();
        waitsForItsLifetime();
        endsWithinOnePass();
        endsWhenItIsRead();
        isReadOnWhateverDevice();
        endsWhenItIsReplaced();
        waitsNowhereAtItsEnd();
        staysDelivered();
        replacesOnlyWhatStands();
        replacesOnlyTheSameKeyAndUser();
        replacesWhatWaits();
        goesToLivingTokens();
        goesToThoseWhoHaveJoined();
        waitsUntilItIsDelivered();
        staysDeadWhateverIsSet();
        waitsForNothingOnceDead();
        usesADeadDevice();
        fallsBeforeWindows();
        fallsBeforeQuietHoursEnd();
        fallsBeforeNewDays();
        deliversByRisingNumbers();
        deliversBehindEachCall();
        refusesToReadAtEachEnd();
        CHECKS.end();
    }

    private static void same(String what, Object due, Object got) {
        CHECKS.same(what, due, got);
    }

    // notices

    private static void standsForItsLifetime() {
        CHECKS.about("A notice stands until as many minutes as its lifetime have passed");
        for (int lifetime : new int[] {1, 2, 59, 60, 61, 1439, 1440, 1441, 3000, 3001, 9999, 10000}) {
            PushNotices x = Made.at(7);
            x.send(0, 3, false, lifetime);
            same("at once, lifetime " + lifetime, true, x.stands(0));
            Made.passAll(x, lifetime - 1);
            same("a minute before its end, lifetime " + lifetime, true, x.stands(0));
            same("its key then", 0, x.standing(0, 3));
            same("the badge then", 1, x.badge(0));
            x.pass(1);
            same("at its end, lifetime " + lifetime, false, x.stands(0));
            same("its key at its end", NONE, x.standing(0, 3));
            same("the badge at its end", 0, x.badge(0));
        }
    }

    private static void waitsForItsLifetime() {
        CHECKS.about("when it does not stand any more, it waits nowhere: the lifetime has passed");
        PushNotices x = Made.withDevices(1);
        x.setOnline(0, false);
        x.send(0, NONE, false, 10);
        x.pass(9);
        same("a minute before its end it waits", 1, x.waitsFor(0));
        same("for one device", 1, x.waiting(0));
        x.pass(1);
        same("at its end", 0, x.waitsFor(0));
        same("for none", 0, x.waiting(0));
        same("online at its end", 0, x.setOnline(0, true));
        PushNotices y = Made.withDevices(1);
        y.setOnline(0, false);
        y.send(0, NONE, false, 10);
        y.pass(9);
        same("online a minute before its end", 1, y.setOnline(0, true));
    }

    private static void endsWithinOnePass() {
        CHECKS.about("behind each minute that passes, when notices whose lifetime ends in it have fallen");
        PushNotices x = Made.at(1);
        x.setDozing(0, true);
        x.send(0, NONE, false, 58);
        x.send(0, NONE, false, 59);
        x.send(0, NONE, false, 60);
        same("one of the three reaches the window", 1, x.pass(3000));
        same("that with the longest lifetime", 1, x.deliveredTo(2));
        same("but it has fallen since", false, x.stands(2));
        same("the others came nowhere", 0, x.deliveredTo(0) | x.deliveredTo(1));
    }

    private static void endsWhenItIsRead() {
        CHECKS.about("A notice stands until .. it is read");
        PushNotices x = Made.withDevices(2);
        x.setOnline(1, false);
        x.send(0, 3, false, 10);
        same("waited for the other", 1, x.read(0, 0));
        same("stands no more", false, x.stands(0));
        same("waits nowhere", 0, x.waitsFor(0) + x.waiting(1));
        same("no badge", 0, x.badge(0));
        same("no key", NONE, x.standing(0, 3));
        same("nothing comes to the other", 0, x.setOnline(1, true));
        same("the delivery is not taken back", 1, x.deliveries());
        x.pass(1);
        same("nor does it stand later", false, x.stands(0));
    }

    private static void isReadOnWhateverDevice() {
        CHECKS.about("12: on a device to which it was delivered; whatever state that is in");
        PushNotices x = Made.at(7);
        for (int sent = 0; sent < 4; sent++) {
            x.send(0, NONE, false, 10);
        }
        x.setOnline(0, false);
        same("offline", 0, x.read(0, 0));
        x.setOnline(0, true);
        x.setDozing(0, true);
        same("dozing", 0, x.read(0, 1));
        x.setQuiet(0, 7, 8);
        same("in its quiet hours", 0, x.read(0, 2));
        x.kill(0);
        same("dead", 0, x.read(0, 3));
        same("no badge", 0, x.badge(0));
        same("four deliveries", 4, x.deliveries());
    }

    private static void endsWhenItIsReplaced() {
        CHECKS.about("A notice stands until .. it is replaced");
        PushNotices x = Made.withDevices(2);
        x.setOnline(1, false);
        x.send(0, 3, false, 10);
        x.send(0, 3, false, 5);
        same("stands no more", false, x.stands(0));
        same("waits nowhere", 0, x.waitsFor(0));
        same("the new one waits", 1, x.waiting(1));
        same("the new one is in the badge", 1, x.badge(0));
        same("the new one has the key", 1, x.standing(0, 3));
        x.pass(5);
        same("it does not come back when the new one falls", false, x.stands(0));
        same("nor has it the key", NONE, x.standing(0, 3));
    }

    private static void waitsNowhereAtItsEnd() {
        CHECKS.about("when it does not stand any more, it waits nowhere");
        PushNotices x = Made.withDevices(16);
        for (int device = 1; device < 16; device++) {
            x.setOnline(device, false);
        }
        x.send(0, NONE, false, 10);
        x.send(0, 0, false, 10);
        x.send(0, NONE, false, 1);
        same("three for each", 3, x.waiting(15));
        same("read: waited for fifteen", 15, x.read(0, 0));
        x.send(0, 0, false, 10);
        x.pass(1);
        for (int notice = 0; notice < 3; notice++) {
            same("none for notice " + notice, 0, x.waitsFor(notice));
        }
        same("only the replacing one is left", 1, x.waiting(15));
        same("and is delivered", 1, x.setOnline(15, true));
    }

    private static void staysDelivered() {
        CHECKS.about("16: the devices to which a notice was delivered");
        PushNotices x = Made.withDevices(2);
        x.send(0, NONE, false, 1);
        x.send(0, 0, false, 10);
        x.send(0, 0, false, 10);
        x.send(0, NONE, false, 10);
        x.read(0, 3);
        x.kill(1);
        x.pass(1);
        for (int notice = 0; notice < 4; notice++) {
            same("also at its end, notice " + notice, 3, x.deliveredTo(notice));
        }
    }

    private static void replacesOnlyWhatStands() {
        CHECKS.about("it replaces the notice with this key that was sent to this user and still stands");
        PushNotices x = Made.withDevices(1);
        x.send(0, 3, false, 1);
        x.pass(1);
        same("a fallen one is none", 1, x.send(0, 3, false, 10));
        x.read(0, 1);
        same("nor is one that was read", 2, x.send(0, 3, false, 10));
        same("it stands", 2, x.standing(0, 3));
        same("only it", 1, x.badge(0));
    }

    private static void replacesOnlyTheSameKeyAndUser() {
        CHECKS.about("the notice with this key that was sent to this user");
        PushNotices x = Made.withAllUsers();
        int sent = 0;
        for (int user = 0; user < 8; user++) {
            for (int key = 0; key < 10; key++) {
                same("number", sent, x.send(user, key, false, 10));
                sent++;
            }
        }
        for (int notice = 0; notice < sent; notice++) {
            same("no other is replaced, notice " + notice, true, x.stands(notice));
        }
        same("of the user 3, the key 9", 80, x.send(3, 9, false, 10));
        same("is replaced", false, x.stands(39));
        same("the one before stands", true, x.stands(38));
        same("the one behind stands", true, x.stands(40));
        same("by the new one", 80, x.standing(3, 9));
    }

    private static void replacesWhatWaits() {
        CHECKS.about("it replaces the notice with this key; before it is delivered itself");
        PushNotices x = Made.at(7);
        x.setDozing(0, true);
        for (int sent = 0; sent < 3; sent++) {
            x.send(0, NONE, true, 10);
        }
        x.send(0, 0, true, 10);
        x.send(0, 0, false, 10);
        same("only the new one waits", 1, x.waiting(0));
        same("only the new one is delivered", 1, x.setDozing(0, false));
        same("the replaced one was not", 0, x.deliveredTo(3));
    }

    private static void goesToLivingTokens() {
        CHECKS.about("It goes to devices whose tokens are alive when it is sent");
        PushNotices x = Made.withDevices(3);
        for (int device = 0; device < 3; device++) {
            x.join(device, 0, true);
        }
        x.kill(1);
        same("to a user", 5, x.deliveredTo(x.send(0, NONE, false, 10)));
        same("by topics", 5, x.deliveredTo(x.sendBy(ANY, 0, 0, false, 10)));
        x.addDevice(0, 0);
        same("not to one added later", 0, x.waiting(3) + x.badge(3));
        same("which gets the next one", 13, x.deliveredTo(x.send(0, NONE, false, 10)));
        x.kill(0);
        x.kill(2);
        x.kill(3);
        int last = x.send(0, NONE, false, 10);
        same("none is alive", 0, x.deliveredTo(last) | x.waitsFor(last));
        same("it stands", true, x.stands(last));
    }

    private static void goesToThoseWhoHaveJoined() {
        CHECKS.about("6: Notices that have been sent stay as they are");
        PushNotices x = Made.withDevices(2);
        x.join(0, 0, true);
        x.setOnline(0, false);
        x.sendBy(ANY, 0, 0, false, 10);
        x.join(0, 0, false);
        x.join(1, 0, true);
        same("it waits for the one that left", 1, x.waitsFor(0));
        same("it does not come to the one that joined", 0, x.deliveredTo(0));
        same("it comes to the one that left", 1, x.setOnline(0, true));
    }

    private static void waitsUntilItIsDelivered() {
        CHECKS.about("It waits for each of them, until it is delivered there");
        PushNotices x = Made.withDevices(2);
        x.setOnline(0, false);
        x.setOnline(1, false);
        x.send(0, NONE, false, 10);
        same("for both", 3, x.waitsFor(0));
        same("is delivered to one", 1, x.setOnline(1, true));
        same("for the other", 1, x.waitsFor(0));
        same("not again", 0, x.setOnline(1, false) + x.setOnline(1, true));
        same("is delivered to the other", 1, x.setOnline(0, true));
        same("for none", 0, x.waitsFor(0));
        same("two deliveries", 2, x.deliveries());
    }

    // tokens

    private static void staysDeadWhateverIsSet() {
        CHECKS.about("A dead token never becomes alive again");
        PushNotices x = Made.withDevices(1);
        x.kill(0);
        x.setOnline(0, false);
        x.setOnline(0, true);
        x.setDozing(0, true);
        x.setDozing(0, false);
        x.setQuiet(0, 5, 10);
        x.setQuiet(0, 5, 5);
        x.join(0, 2, true);
        x.addDevice(0, 0);
        Made.passAll(x, 4000);
        CHECKS.state("it is dead", () -> x.kill(0));
        same("none to a user comes", 2, x.deliveredTo(x.send(0, NONE, true, 10)));
        int byTopic = x.sendBy(ANY, 2, 2, true, 10);
        same("none by topics comes", 0, x.deliveredTo(byTopic) | x.waitsFor(byTopic));
    }

    private static void waitsForNothingOnceDead() {
        CHECKS.about("A device whose token dies waits for nothing any more");
        PushNotices x = Made.withDevices(2);
        x.setOnline(0, false);
        x.setOnline(1, false);
        x.send(0, NONE, false, 10);
        x.send(0, 0, true, 10);
        same("two waited", 2, x.kill(0));
        same("none waits", 0, x.waiting(0));
        same("the other's wait", 2, x.waitsFor(0));
        same("the other's wait too", 2, x.waitsFor(1));
        same("nothing comes to it", 0, x.setOnline(0, true));
        same("the notices stand", true, x.stands(0) && x.stands(1));
        same("the other gets them", 2, x.setOnline(1, true));
    }

    private static void usesADeadDevice() {
        CHECKS.about("7: Lets the token of a device die; the device stays");
        PushNotices x = Made.withDevices(2);
        x.setDozing(0, true);
        x.send(0, NONE, true, 1500);
        x.kill(0);
        same("devices", 2, x.devices());
        same("badge", 1, x.badge(0));
        same("quota", 2, x.quota(0));
        same("quiet hours are set", 0, x.setQuiet(0, 1430, 1));
        same("it is quiet", true, x.isQuiet(0));
        same("others are set", 0, x.setQuiet(0, 1, 5));
        same("it is not yet quiet", false, x.isQuiet(0));
        same("joins", false, x.join(0, 3, true));
        same("had joined", true, x.join(0, 3, false));
        x.pass(1440);
        same("quota of a new day", 3, x.quota(0));
        same("reads", 0, x.read(0, 0));
        same("it is off the other's badge", 0, x.badge(1));
    }

    // what is looked at first

    private static void fallsBeforeWindows() {
        CHECKS.about("notices whose lifetime ends in it have fallen, before a window is looked at");
        for (int lifetime = 59; lifetime <= 61; lifetime++) {
            PushNotices x = Made.at(60);
            x.setQuiet(0, 60, 61);
            x.setDozing(0, true);
            x.send(0, NONE, false, lifetime);
            same("lifetime " + lifetime, lifetime > 60 ? 1 : 0, x.pass(60));
        }
    }

    private static void fallsBeforeQuietHoursEnd() {
        CHECKS.about("notices whose lifetime ends in it have fallen, before the end of quiet hours is looked at");
        for (int lifetime = 6; lifetime <= 8; lifetime++) {
            PushNotices x = Made.at(70);
            x.setQuiet(0, 70, 77);
            x.send(0, NONE, false, lifetime);
            same("lifetime " + lifetime, lifetime > 7 ? 1 : 0, x.pass(7));
        }
    }

    private static void fallsBeforeNewDays() {
        CHECKS.about("notices whose lifetime ends in it have fallen, before the quota of a new day is looked at");
        for (int lifetime = 1439; lifetime <= 1441; lifetime++) {
            PushNotices x = Made.withDevices(1);
            x.setDozing(0, true);
            for (int sent = 0; sent < 4; sent++) {
                x.send(0, NONE, true, lifetime);
            }
            same("lifetime " + lifetime, lifetime > 1440 ? 1 : 0, x.pass(1440));
        }
    }

    private static void deliversByRisingNumbers() {
        CHECKS.about("device by device, for each its notices by rising numbers");
        PushNotices x = Made.withDevices(2);
        x.pass(1);
        for (int device = 0; device < 2; device++) {
            x.setDozing(device, true);
            x.setOnline(device, false);
        }
        for (int sent = 0; sent < 10; sent++) {
            x.send(0, NONE, sent % 2 == 1, 100);
        }
        same("the high ones 1, 3 and 5", 3, x.setOnline(1, true));
        for (int notice = 0; notice < 10; notice++) {
            boolean isDue = notice == 1 || notice == 3 || notice == 5;
            same("notice " + notice, isDue ? 2 : 0, x.deliveredTo(notice));
        }
        same("the same ones for the other device", 3, x.setOnline(0, true));
        same("the fifth", 3, x.deliveredTo(5));
        same("not the seventh", 0, x.deliveredTo(7));
    }

    private static void deliversBehindEachCall() {
        CHECKS.about("This is looked at behind each call that sends, or changes a device");
        PushNotices x = Made.at(5);
        same("send", 1, x.deliveredTo(x.send(0, NONE, false, 100)));
        x.join(0, 0, true);
        same("sendBy", 1, x.deliveredTo(x.sendBy(ANY, 0, 0, false, 100)));
        x.setOnline(0, false);
        x.send(0, NONE, false, 100);
        same("setOnline", 1, x.setOnline(0, true));
        x.setDozing(0, true);
        x.send(0, NONE, false, 100);
        same("setDozing", 1, x.setDozing(0, false));
        x.setQuiet(0, 5, 6);
        x.send(0, NONE, false, 100);
        same("setQuiet", 1, x.setQuiet(0, 6, 5));
        same("deliveries", 5, x.deliveries());
        same("badge", 5, x.badge(0));
    }

    private static void refusesToReadAtEachEnd() {
        CHECKS.about("12: if it was not delivered to the device, or does not stand any more");
        PushNotices x = Made.withDevices(2);
        x.setOnline(1, false);
        x.addDevice(1, 0);
        x.send(0, NONE, false, 2);
        CHECKS.state("it waits there", () -> x.read(1, 0));
        CHECKS.state("it was not sent there", () -> x.read(2, 0));
        x.send(0, 4, false, 9);
        x.send(0, 4, false, 9);
        CHECKS.state("it was replaced", () -> x.read(0, 1));
        x.read(0, 2);
        CHECKS.state("it was read", () -> x.read(0, 2));
        x.pass(1);
        x.send(0, NONE, false, 1);
        same("a minute before its end", 1, x.read(0, 0));
        x.pass(1);
        CHECKS.state("it has fallen", () -> x.read(0, 3));
        CHECKS.state("neither delivered nor standing", () -> x.read(1, 3));
    }
}
