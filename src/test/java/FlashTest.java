/** Promises 14, 15 and 18: rot, octet, slot. */
public final class FlashTest {
    public static void main(String[] args) {
        rots();
        wantsABytesPlace();
        tellsWhileDown();
        slotTellsItsHeader();
        slotWantsItsRange();
        everyByteOfAHeaderCounts();
        everyByteOfABodyCounts();
        formCountsBesideTheSeal();
        withoutARecordNothingIsRevoked();
        Due.end();
    }

    private static void rots() {
        TwoSlots x = new TwoSlots(5, 0, 1L);
        Due.is("rot(63, 63, 1)", x.rot(63, 63, 1), 254);
        Due.is("octet(63, 63)", x.octet(63, 63), 254);
        Due.is("rot(63, 63, 3)", x.rot(63, 63, 3), 253);
        Due.is("rot(1, 0, -1)", x.rot(1, 0, -1), 0);
        Due.is("rot(1, 0, 256)", x.rot(1, 0, 256), 0);
        Due.is("rot(1, 0, -128)", x.rot(1, 0, -128), 128);
        Due.is("octet(1, 0)", x.octet(1, 0), 128);
        Due.is("octet(1, 1)", x.octet(1, 1), 255);
        Due.is("count(0): it is no write", x.count(0), 0);
    }

    private static void wantsABytesPlace() {
        TwoSlots x = new TwoSlots(5, 0, 1L);
        int[][] none = {{-1, 0}, {64, 0}, {0, -1}, {0, 64}, {Integer.MAX_VALUE, 0}, {Integer.MIN_VALUE, 0},
            {0, Integer.MAX_VALUE}, {0, Integer.MIN_VALUE}, {67108864, 0}, {1, -64}};
        for (int[] p : none) {
            Due.is("rot(" + p[0] + ", " + p[1] + ", 1)", x.rot(p[0], p[1], 1), TwoSlots.UNKNOWN);
            Due.is("octet(" + p[0] + ", " + p[1] + ")", x.octet(p[0], p[1]), TwoSlots.UNKNOWN);
        }
        Due.is("record(0)", x.record(0), 1);
    }

    private static void tellsWhileDown() {
        TwoSlots x = Due.booted(5);
        Due.down(x);
        Due.is("octet(2, 0)", x.octet(2, 0), 84);
        Due.is("rot(2, 0, 1)", x.rot(2, 0, 1), 85);
        Due.is("slot(0, 0)", x.slot(0, 0), 0);
        Due.is("rot(2, 0, 1)", x.rot(2, 0, 1), 84);
        Due.is("slot(0, 0)", x.slot(0, 0), 1);
        Due.is("record(5)", x.record(5), 5);
    }

    private static void slotTellsItsHeader() {
        TwoSlots x = Due.booted(5);
        Due.update(x, -7, 12, 3, 0);
        int[] want = {1, 1, -7, 12, 3};
        for (int what = 0; what < 5; what++) {
            Due.is("slot(1, " + what + ")", x.slot(1, what), want[what]);
        }
        x.rot(40, 1, 1);
        Due.is("slot(1, 0) of a rotted body", x.slot(1, 0), 0);
        for (int what = 1; what < 5; what++) {
            Due.is("slot(1, " + what + ") of a rotted body", x.slot(1, what), want[what]);
        }
        x.rot(33, 63, 1);
        for (int what = 0; what < 5; what++) {
            Due.is("slot(1, " + what + ") of a rotted header", x.slot(1, what), 0);
        }
        x = Due.booted(5);
        Due.settle(x, 6, 1, 0, 0);
        int[] old = {0, 1, 5, 1, 0};
        for (int what = 0; what < 5; what++) {
            Due.is("slot(0, " + what + ") below the counter", x.slot(0, what), old[what]);
        }
    }

    private static void slotWantsItsRange() {
        TwoSlots x = new TwoSlots(5, 0, 1L);
        int[] none = {-1, 2, Integer.MAX_VALUE, Integer.MIN_VALUE};
        for (int s : none) {
            Due.is("slot(" + s + ", 0)", x.slot(s, 0), TwoSlots.UNKNOWN);
            Due.is("slot(" + s + ", 5)", x.slot(s, 5), TwoSlots.UNKNOWN);
        }
        int[] outside = {-1, 5, Integer.MAX_VALUE, Integer.MIN_VALUE};
        for (int what : outside) {
            Due.is("slot(0, " + what + ")", x.slot(0, what), TwoSlots.OUTSIDE);
            Due.is("slot(1, " + what + ")", x.slot(1, what), TwoSlots.OUTSIDE);
        }
    }

    private static void everyByteOfAHeaderCounts() {
        TwoSlots x = new TwoSlots(5, 0, 1L);
        for (int i = 0; i < 64; i++) {
            x.rot(2, i, 64);
            Due.is("slot(0, 1) with byte " + i + " rotted", x.slot(0, 1), 0);
            x.rot(2, i, 64);
        }
        Due.is("slot(0, 1)", x.slot(0, 1), 1);
    }

    private static void everyByteOfABodyCounts() {
        TwoSlots x = new TwoSlots(5, 1, 1L);
        for (int i = 0; i < 128; i++) {
            x.rot(3 + i / 64, i % 64, 1);
            Due.is("slot(0, 0) with body byte " + i + " rotted", x.slot(0, 0), 0);
            x.rot(3 + i / 64, i % 64, 1);
        }
        Due.is("slot(0, 0)", x.slot(0, 0), 1);
        x.rot(5, 0, 255);
        Due.is("slot(0, 0): bytes behind the body do not count", x.slot(0, 0), 1);
    }

    /** Headers that have a right seal, but a wrong form. */
    private static void formCountsBesideTheSeal() {
        int[][] changes = {{0, 1}, {3, 1}, {8, 1}, {11, 1}, {11, 30}, {11, 31}, {12, 4}, {12, 255}, {13, 1}, {19, 1}, {28, 1}, {55, 1}};
        for (int[] change : changes) {
            TwoSlots x = new TwoSlots(5, 0, 1L);
            long[] row = new long[64];
            for (int i = 0; i < 56; i++) {
                row[i] = x.octet(2, i) ^ (i == change[0] ? change[1] : 0);
            }
            long seal = 1L ^ row[12] * 0x100000001B3L;
            for (int i = 0; i < 56; i++) {
                long mixed = seal ^ row[i];
                seal = (mixed << 13 | mixed >>> 51) * 0x9E3779B97F4A7C15L;
            }
            x.rot(2, change[0], change[1]);
            for (int i = 0; i < 8; i++) {
                int want = (int) (seal >>> 56 - 8 * i) & 255;
                Due.is("the seal's byte", x.rot(2, 56 + i, x.octet(2, 56 + i) ^ want), want);
            }
            boolean sizeStands = change[0] == 11 && (1 ^ change[1]) >= 1 && (1 ^ change[1]) <= 30;
            Due.is("slot(0, 1) with byte " + change[0] + " other by " + change[1], x.slot(0, 1), sizeStands ? 1 : 0);
        }
    }

    private static void withoutARecordNothingIsRevoked() {
        TwoSlots x = Due.booted(5);
        Due.settle(x, 6, 1, 1, 0);
        x.revoke(0);
        Due.is("slot(0, 1)", x.slot(0, 1), 0);
        for (int line = 0; line < 4; line++) {
            x.rot(0, 16 * line + 15, 1);
        }
        x.rot(1, 15, 1);
        Due.is("record(0)", x.record(0), TwoSlots.NONE);
        Due.is("slot(0, 1)", x.slot(0, 1), 1);
        Due.is("slot(0, 0): the counter is 0", x.slot(0, 0), 1);
    }
}
