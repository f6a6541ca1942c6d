import java.util.Random;

/**
 * All promises: runs of up to 512 calls, drawn from fixed seeds, answered by the program and by the
 * plain model. Wrong arguments are among them.
 */
final class ModelTest {
    private static final int RUNS = 500;
    private static final int CALLS = 512;
    private static final Checks CHECKS = new Checks("ModelTest");

    private final Random random;
    private final PushNotices program = new PushNotices();
    private final PlainModel model = new PlainModel();
    private final int users;
    private final int mostDevices;
    private final int pace;
    private final StringBuilder calls = new StringBuilder();

    private ModelTest(int seed) {
        random = new Random(seed);
        users = 1 + random.nextInt(8);
        mostDevices = 1 + random.nextInt(17);
        pace = random.nextInt(4);
    }

    public static void main(String[] args) {
        int wrongRuns = 0;
        for (int seed = 0; seed < RUNS && wrongRuns < 3; seed++) {
            if (!new ModelTest(seed).run(seed)) {
                wrongRuns++;
            }
        }
        CHECKS.end();
    }

    private boolean run(int seed) {
        for (int i = 0; i < CALLS; i++) {
            Object[] outcomes = call();
            boolean isDue = outcomes[0].equals(outcomes[1]);
            CHECKS.same(isDue ? "" : "run " + seed + ", call " + i + " of" + calls, outcomes[0], outcomes[1]);
            if (!isDue) {
                return false;
            }
        }
        return true;
    }

    private Object[] call() {
        int kind = random.nextInt(100);
        if (model.devices() < mostDevices && (model.devices() == 0 || kind < 12)) {
            return addDevice();
        }
        if (kind < 30) {
            return changeDevice(random.nextInt(10));
        }
        if (kind < 48) {
            return changeNotice(random.nextInt(12));
        }
        if (kind < 64) {
            return pass();
        }
        return ask(random.nextInt(13));
    }

    private Object[] addDevice() {
        int user = user();
        int offset = oneOf(0, -720, 840, 60 * within(-12, 14), within(-720, 840), within(-730, 850));
        return both("addDevice", () -> program.addDevice(user, offset), () -> model.addDevice(user, offset),
                user, offset);
    }

    private Object[] changeDevice(int kind) {
        int device = device();
        boolean flag = random.nextBoolean();
        if (kind < 3) {
            return both("setOnline", () -> program.setOnline(device, flag), () -> model.setOnline(device, flag),
                    device, flag);
        }
        if (kind < 6) {
            return both("setDozing", () -> program.setDozing(device, flag), () -> model.setDozing(device, flag),
                    device, flag);
        }
        if (kind < 8) {
            int from = timeOfDay();
            int to = timeOfDay();
            return both("setQuiet", () -> program.setQuiet(device, from, to), () -> model.setQuiet(device, from, to),
                    device, from, to);
        }
        if (kind == 8 && random.nextInt(8) == 0) {
            return both("kill", () -> program.kill(device), () -> model.kill(device), device);
        }
        int topic = oneOf(random.nextInt(3), random.nextInt(6), within(-1, 6));
        return both("join", () -> program.join(device, topic, flag), () -> model.join(device, topic, flag),
                device, topic, flag);
    }

    private Object[] changeNotice(int kind) {
        boolean high = random.nextBoolean();
        int lifetime = oneOf(within(1, 10), within(1, 200), 60 * within(0, 30), within(1, 10000), within(-1, 10002));
        if (kind < 5) {
            int user = user();
            int key = oneOf(-1, random.nextInt(2), random.nextInt(10), within(-2, 10));
            return both("send", () -> program.send(user, key, high, lifetime),
                    () -> model.send(user, key, high, lifetime), user, key, high, lifetime);
        }
        if (kind < 9) {
            int condition = random.nextInt(20) == 0 ? within(-1, 3) : random.nextInt(3);
            int first = oneOf(random.nextInt(3), random.nextInt(6), random.nextInt(3), within(-1, 6));
            int second = oneOf(random.nextInt(3), random.nextInt(6), random.nextInt(3), within(-1, 6));
            return both("sendBy", () -> program.sendBy(condition, first, second, high, lifetime),
                    () -> model.sendBy(condition, first, second, high, lifetime),
                    condition, first, second, high, lifetime);
        }
        int device = device();
        int notice = notice();
        return both("read", () -> program.read(device, notice), () -> model.read(device, notice), device, notice);
    }

    private Object[] pass() {
        int toWindow = 60 - model.clock() % 60;
        int toDay = 1440 - model.clock() % 1440;
        int minutes;
        switch (random.nextInt(pace == 0 ? 10 : 8)) {
            case 0: case 1: case 2:
                minutes = within(1, 4);
                break;
            case 3: case 4:
                minutes = toWindow + within(-1, 1);
                break;
            case 5:
                minutes = toDay + within(-1, 1);
                break;
            case 6: case 7:
                minutes = within(1, 300);
                break;
            default:
                minutes = oneOf(3000, within(1, 3000), within(-1, 3002));
        }
        int drawn = minutes;
        return both("pass", () -> program.pass(drawn), () -> model.pass(drawn), drawn);
    }

    private Object[] ask(int kind) {
        int device = device();
        int notice = notice();
        switch (kind) {
            case 0: return both("devices", program::devices, model::devices);
            case 1: return both("isQuiet", () -> program.isQuiet(device), () -> model.isQuiet(device), device);
            case 2: return both("sent", program::sent, model::sent);
            case 3: return both("stands", () -> program.stands(notice), () -> model.stands(notice), notice);
            case 4: return both("clock", program::clock, model::clock);
            case 5: return both("deliveries", program::deliveries, model::deliveries);
            case 6: return both("badge", () -> program.badge(device), () -> model.badge(device), device);
            case 7: return both("waiting", () -> program.waiting(device), () -> model.waiting(device), device);
            case 8: return both("quota", () -> program.quota(device), () -> model.quota(device), device);
            case 9: case 10:
                return both("waitsFor", () -> program.waitsFor(notice), () -> model.waitsFor(notice), notice);
            case 11:
                return both("deliveredTo", () -> program.deliveredTo(notice), () -> model.deliveredTo(notice), notice);
            default:
                int user = user();
                int key = oneOf(random.nextInt(2), random.nextInt(10), within(-1, 10));
                return both("standing", () -> program.standing(user, key), () -> model.standing(user, key), user, key);
        }
    }

    private Object[] both(String name, Checks.Call ofProgram, Checks.Call ofModel, Object... arguments) {
        Object due = Checks.outcome(ofModel);
        Object got = Checks.outcome(ofProgram);
        calls.append("\n  ").append(name).append(java.util.Arrays.toString(arguments)).append(" ").append(due);
        return new Object[] {due, got};
    }

    private int user() {
        return random.nextInt(40) == 0 ? within(-1, 8) : random.nextInt(users);
    }

    private int device() {
        return random.nextInt(20) == 0 ? within(-1, 16) : random.nextInt(Math.max(1, model.devices()));
    }

    private int notice() {
        int sent = model.sent();
        if (random.nextInt(20) == 0) {
            return within(-1, 120);
        }
        return random.nextBoolean() ? random.nextInt(Math.max(1, sent)) : Math.max(0, sent - 1 - random.nextInt(4));
    }

    private int timeOfDay() {
        int now = model.clock() % 1440;
        return oneOf(now, (now + within(0, 90)) % 1440, random.nextInt(1440), within(-1, 1440), 0, 1439);
    }

    private int within(int least, int most) {
        return least + random.nextInt(most - least + 1);
    }

    private int oneOf(int... choices) {
        return choices[random.nextInt(choices.length)];
    }
}
