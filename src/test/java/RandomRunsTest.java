import java.util.Random;

/** Long runs of calls, drawn from fixed seeds: every answer is the model's. */
public final class RandomRunsTest {
    private static final int RUNS = 3000;
    private static final int CALLS = 512;
    private static final String[] NAMES = {"make", "pack", "alter", "offer", "block", "finish", "boot", "confirm", "tick",
        "revoke", "cut", "start", "rot", "octet", "running", "watchdog", "slot", "record", "count"};
    private static final int[] EDGES = {0, 1, -1, 2, 3, 4, 30, 31, 63, 64, 255, 1000, 1001, Integer.MAX_VALUE, Integer.MIN_VALUE};

    private final Random random;
    private final TwoSlots device;
    private final Model model;
    private final String name;
    private int asked = 0;
    private boolean wrong = false;

    private RandomRunsTest(int seed) {
        random = new Random(seed);
        int version = version();
        int size = random.nextInt(4) == 0 ? edge() : random.nextInt(4);
        long key = random.nextBoolean() ? random.nextInt(3) - 1 : random.nextLong();
        device = new TwoSlots(version, size, key);
        model = new Model(version, size, key);
        name = "run " + seed + " of TwoSlots(" + version + ", " + size + ", " + key + "L)";
    }

    public static void main(String[] args) {
        for (int seed = 0; seed < RUNS; seed++) {
            new RandomRunsTest(seed).run();
        }
        Due.end();
    }

    private void run() {
        boolean calm = random.nextBoolean();
        while (asked < CALLS && !wrong) {
            int kind = random.nextInt(calm ? 30 : 40);
            if (kind < 6) {
                update();
            } else if (kind < 9) {
                ask(6, 0, 0, 0, 0);
            } else if (kind < 11) {
                ask(7, 0, 0, 0, 0);
            } else if (kind < 13) {
                ask(8, random.nextInt(8) == 0 ? edge() : 1 + random.nextInt(45), 0, 0, 0);
            } else if (kind < 15) {
                ask(9, random.nextInt(4), 0, 0, 0);
            } else if (kind < 18) {
                ask(11, 0, 0, 0, 0);
            } else if (kind < 28) {
                look();
            } else if (kind < 30) {
                any();
            } else if (kind < 34) {
                ask(10, random.nextInt(12), random.nextInt(64), 0, 0);
            } else {
                rot();
            }
        }
    }

    /** An update that may go wrong or be left at any point. */
    private void update() {
        int size = 1 + random.nextInt(random.nextInt(6) == 0 ? 30 : 3);
        ask(0, nextVersion(), size, keyToUse(), random.nextInt());
        ask(1, Model.NONE, 0, 0, 0);
        slip();
        boolean taken = ask(3, 0, 0, 0, 0) >= 0;
        if (!taken && random.nextInt(8) != 0) {
            return;
        }
        int come = random.nextInt(8) == 0 ? random.nextInt(size + 1) : size;
        for (int i = 0; i < come; i++) {
            ask(1, i, 0, 0, 0);
            slip();
            ask(4, 0, 0, 0, 0);
        }
        if (random.nextInt(8) == 0) {
            any();
        }
        ask(5, 0, 0, 0, 0);
    }

    /** Mostly one that may run; the model is asked, so that no call of the device is used for it. */
    private int nextVersion() {
        return random.nextInt(12) == 0 ? version() : model.call(17, 5, 0, 0, 0) + random.nextInt(8) / 2 - (random.nextInt(8) == 0 ? 1 : 0);
    }

    private int keyToUse() {
        int k = random.nextInt(4);
        int revoked = model.call(17, 4, 0, 0, 0);
        for (int i = 0; i < 4 && (revoked >> k & 1) == 1 && random.nextInt(16) != 0; i++) {
            k = (k + 1) % 4;
        }
        return k;
    }

    private void slip() {
        if (random.nextInt(40) == 0) {
            ask(2, random.nextInt(66) - 1, random.nextInt(), 0, 0);
        }
    }

    private void look() {
        int[] tellers = {13, 14, 15, 16, 17, 18};
        int teller = tellers[random.nextInt(tellers.length)];
        if (teller == 13) {
            ask(13, sector(), random.nextInt(64), 0, 0);
        } else if (teller == 16) {
            ask(16, random.nextInt(2), random.nextInt(5), 0, 0);
        } else {
            ask(teller, random.nextInt(9), 0, 0, 0);
        }
    }

    private void rot() {
        int sector = sector();
        int mask = random.nextBoolean() ? 1 << random.nextInt(8) : random.nextInt();
        int i = random.nextInt(64);
        ask(12, sector, i, mask, 0);
        if (random.nextInt(4) != 0) {
            look();
            ask(6, 0, 0, 0, 0);
            ask(12, sector, i, mask, 0);
        }
    }

    private void any() {
        ask(random.nextInt(NAMES.length), edge(), edge(), edge(), edge());
    }

    private int version() {
        return random.nextInt(6) == 0 ? edge() : 5 + random.nextInt(6);
    }

    private int sector() {
        int[] likely = {0, 0, 0, 1, 1, 2, 3, 4, 33, 34, 35};
        return random.nextInt(5) == 0 ? random.nextInt(64) : likely[random.nextInt(likely.length)];
    }

    private int edge() {
        return EDGES[random.nextInt(EDGES.length)];
    }

    private int ask(int method, int a, int b, int c, int d) {
        if (asked == CALLS || wrong) {
            return 0;
        }
        asked++;
        int got = answer(method, a, b, c, d);
        int want = model.call(method, a, b, c, d);
        wrong = got != want;
        Due.is(name + ", call " + asked + ": " + NAMES[method] + " with " + a + ", " + b + ", " + c + ", " + d, got, want);
        return got;
    }

    private int answer(int method, int a, int b, int c, int d) {
        switch (method) {
            case 0: return device.make(a, b, c, d);
            case 1: return device.pack(a);
            case 2: return device.alter(a, b);
            case 3: return device.offer();
            case 4: return device.block();
            case 5: return device.finish();
            case 6: return device.boot();
            case 7: return device.confirm();
            case 8: return device.tick(a);
            case 9: return device.revoke(a);
            case 10: return device.cut(a, b);
            case 11: return device.start();
            case 12: return device.rot(a, b, c);
            case 13: return device.octet(a, b);
            case 14: return device.running();
            case 15: return device.watchdog();
            case 16: return device.slot(a, b);
            case 17: return device.record(a);
            default: return device.count(a);
        }
    }
}
