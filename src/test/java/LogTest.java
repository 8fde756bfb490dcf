/** Promise 19 and the log: which records are whole, which is the newest, where they are appended. */
public final class LogTest {
    public static void main(String[] args) {
        recordWantsItsRange();
        recordTellsItsFields();
        whatIsWhole();
        newestOfSeveral();
        appendsInTurn();
        passesOverLinesThatAreNotErased();
        serialsThatAreNoLongerWhole();
        writesTheBytesBehindTheCounter();
        Due.end();
    }

    private static void recordWantsItsRange() {
        TwoSlots x = new TwoSlots(5, 0, 1L);
        int[] outside = {-1, 8, Integer.MAX_VALUE, Integer.MIN_VALUE};
        for (int what : outside) {
            Due.is("record(" + what + ")", x.record(what), TwoSlots.OUTSIDE);
        }
        x.rot(0, 0, 2);
        Due.is("record(8) without a record", x.record(8), TwoSlots.OUTSIDE);
        for (int what = 0; what < 8; what++) {
            Due.is("record(" + what + ") without a record", x.record(what), TwoSlots.NONE);
        }
    }

    private static void recordTellsItsFields() {
        TwoSlots x = new TwoSlots(-9, 0, 1L);
        int[] masks = {0, 1, 2, 3, 1, 254, 2, 0x35};
        for (int i = 0; i < 8; i++) {
            x.rot(0, i, masks[i]);
        }
        int[] want = {0x010202, 1, 1, 2, 0x35, -9, 0, 0};
        for (int what = 0; what < 8; what++) {
            Due.is("record(" + what + ")", x.record(what), want[what]);
        }
        x.rot(0, 5, 1);
        Due.is("record(2) of slot 0", x.record(2), 0);
    }

    private static void whatIsWhole() {
        int[][] rots = {{0, 1, 0}, {0, 128, 0}, {15, 1, 0}, {15, 90, 0}, {4, 1, 1}, {4, 2, 0}, {4, 255, 0},
            {5, 255, 1}, {5, 254, 1}, {5, 253, 0}, {5, 1, 0}, {5, 127, 0}, {6, 3, 1}, {6, 4, 0}, {6, 255, 0}, {7, 255, 1},
            {8, 255, 1}, {1, 255, 1}, {12, 255, 1}, {13, 1, 1}, {14, 1, 1}};
        for (int[] r : rots) {
            TwoSlots x = new TwoSlots(5, 0, 1L);
            x.rot(0, r[0], r[1]);
            Due.is("whole with byte " + r[0] + " other by " + r[1], x.record(6) == 0 ? 1 : 0, r[2]);
        }
    }

    private static void newestOfSeveral() {
        TwoSlots x = Due.booted(5);
        x.revoke(1);
        x.revoke(2);
        Due.is("record(7)", x.record(7), 2);
        x.rot(0, 1, 128);
        Due.is("record(7): a greater serial before it", x.record(7), 0);
        Due.is("record(4)", x.record(4), 0);
        x.rot(0, 1, 128);
        x.rot(0, 16 + 3, 1);
        Due.is("record(0): two have it", x.record(0), 3);
        Due.is("record(7): the first by line", x.record(7), 1);
        x.rot(0, 32 + 15, 1);
        x.rot(0, 16 + 3, 1);
        Due.is("record(7): the newest that is whole", x.record(7), 1);
        Due.is("record(0)", x.record(0), 2);

        x = Due.booted(5);
        Due.settle(x, 6, 1, 1, 0);
        x.revoke(0);
        Due.is("record(6)", x.record(6), 1);
        x.rot(0, 48 + 3, 4 ^ 5);
        Due.is("record(6): the first by sector", x.record(6), 0);
        Due.is("record(7)", x.record(7), 3);
    }

    private static void appendsInTurn() {
        TwoSlots x = Due.booted(5);
        for (int n = 1; n <= 24; n++) {
            Due.is("record(0)", x.record(0), n);
            Due.is("record(6)", x.record(6), (n - 1) / 4 % 2);
            Due.is("record(7)", x.record(7), (n - 1) % 4);
            Due.is("count(2)", x.count(2), n - 1);
            Due.is("count(1)", x.count(1), (n - 1) / 4);
            Due.is("count(0)", x.count(0), n - 1 + (n - 1) / 4);
            // Rotted back, the key can be revoked once more.
            x.rot(x.record(6), 16 * x.record(7) + 7, x.record(4));
            Due.is("revoke(1)", x.revoke(1), 1);
        }
    }

    private static void passesOverLinesThatAreNotErased() {
        TwoSlots x = Due.booted(5);
        x.rot(0, 31, 1);
        x.rot(0, 32, 128);
        x.revoke(1);
        Due.is("record(7)", x.record(7), 3);
        x.rot(1, 0, 1);
        x.rot(1, 63, 1);
        x.revoke(2);
        Due.is("record(6)", x.record(6), 1);
        Due.is("record(7): its sector was erased", x.record(7), 0);
        Due.is("count(1)", x.count(1), 1);
        Due.is("octet(1, 63)", x.octet(1, 63), 255);
        Due.is("octet(0, 31): the other one stays", x.octet(0, 31), 254);

        x = Due.booted(5);
        x.revoke(1);
        x.rot(0, 15, 1);
        x.rot(0, 16 + 15, 1);
        for (int i = 0; i < 16; i++) {
            x.rot(0, 32 + i, 255 ^ x.octet(0, i) ^ (i == 15 ? 1 : 0));
        }
        Due.is("record(7): one that rot has made", x.record(7), 2);
        x.revoke(1);
        Due.is("record(7): behind the newest, not before it", x.record(7), 3);
    }

    /** With the greatest serial that is whole, what is appended is none: the newest stays. */
    private static void serialsThatAreNoLongerWhole() {
        TwoSlots x = Due.booted(5);
        x.rot(0, 1, 255);
        x.rot(0, 2, 255);
        x.rot(0, 3, 254);
        Due.is("record(0)", x.record(0), 0xFFFFFF);
        Due.is("revoke(1)", x.revoke(1), 1);
        Due.is("the record", Due.bytes(x, 0, 16, 16), "0100000000ff0002000000050000005a");
        Due.is("record(0)", x.record(0), 0xFFFFFF);
        Due.is("record(4)", x.record(4), 0);
        Due.is("revoke(1) again", x.revoke(1), 1);
        Due.is("octet(0, 32)", x.octet(0, 32), 1);
        x.revoke(1);
        x.revoke(1);
        Due.is("octet(1, 0)", x.octet(1, 0), 1);
        Due.is("octet(1, 16)", x.octet(1, 16), 255);
        x.revoke(1);
        Due.is("octet(1, 16): erased again", x.octet(1, 16), 255);
        Due.is("count(1)", x.count(1), 2);
        Due.is("count(2)", x.count(2), 5);
        Due.is("finish()", Due.update(x, 6, 1, 0, 0), 1);
        Due.is("record(2): it is not tried", x.record(2), TwoSlots.NONE);
        Due.is("boot()", x.boot(), 0);

        x = Due.booted(5);
        Due.update(x, 6, 1, 0, 0);
        x.rot(0, 17, 255);
        x.rot(0, 18, 255);
        x.rot(0, 19, 253);
        Due.is("record(0)", x.record(0), 0xFFFFFF);
        x.boot();
        Due.is("tick(100): the tries stay", x.tick(100), 5);
        Due.is("confirm(): the counter of the newest", x.confirm(), 5);
        Due.is("running()", x.running(), 1);
        Due.is("watchdog()", x.watchdog(), 0);
        Due.is("offer(): to the slot that is not active", Due.offer(x, 6, 1, 0, 0), 1);
    }

    private static void writesTheBytesBehindTheCounter() {
        TwoSlots x = Due.booted(5);
        x.rot(0, 12, 1);
        x.rot(0, 14, 1);
        x.revoke(1);
        Due.is("the record", Due.bytes(x, 0, 16, 16), "0000000200ff0002000000050000005a");
    }
}
