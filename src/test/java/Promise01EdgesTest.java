/** The boundary cases of promise 1: a new object. */
public final class Promise01EdgesTest {
    private static final int[] VERSIONS = {0, 1, -1, Integer.MAX_VALUE, Integer.MIN_VALUE};

    public static void main(String[] args) {
        sizesWrapRound();
        versionsOfEveryKind();
        keyZero();
        keysOfEveryKind();
        bytesOfTheLargestBody();
        theFirstRecord();
        noWritesWereCounted();
        itIsOff();
        theMakerHasNothing();
        theRestIsErased();
        Due.end();
    }

    /** Promise 1: "of 1 + (size modulo 30, from 0 on) blocks" */
    private static void sizesWrapRound() {
        int[][] sizes = {{0, 1}, {1, 2}, {28, 29}, {29, 30}, {30, 1}, {31, 2}, {59, 30}, {60, 1}, {-1, 30}, {-29, 2}, {-30, 1},
            {-31, 30}, {Integer.MAX_VALUE, 8}, {Integer.MIN_VALUE, 23}};
        for (int[] size : sizes) {
            TwoSlots x = new TwoSlots(3, size[0], 9L);
            Due.is("slot(0, 3) of size " + size[0], x.slot(0, 3), size[1]);
            Due.is("first byte of the last block of size " + size[0], x.octet(2 + size[1], 0), size[1] - 1);
            Due.is("first byte behind the body of size " + size[0], x.octet(3 + size[1], 0), 255);
        }
    }

    /** Promise 1: "Slot 0 has a GOOD image of this version" */
    private static void versionsOfEveryKind() {
        for (int version : VERSIONS) {
            TwoSlots x = new TwoSlots(version, 2, 9L);
            Due.is("slot(0, 0) of version " + version, x.slot(0, 0), 1);
            Due.is("slot(0, 2) of version " + version, x.slot(0, 2), version);
            Due.is("boot() of version " + version, x.boot(), 0);
        }
    }

    /** Promise 1: "KEY 0" */
    private static void keyZero() {
        TwoSlots x = new TwoSlots(3, 0, 0x0302010003020100L);
        Due.is("slot(0, 4)", x.slot(0, 4), 0);
        Due.is("octet(2, 12)", x.octet(2, 12), 0);
    }

    /** Promise 1, of Terms 3: "Key k has the number key xor (k times 0x100000001B3), key being that of the constructor." */
    private static void keysOfEveryKind() {
        long[] keys = {0L, 1L, -1L, Long.MAX_VALUE, Long.MIN_VALUE, 0x100000001B3L};
        for (long key : keys) {
            TwoSlots x = new TwoSlots(3, 0, key);
            int[] bytes = new int[56];
            for (int i = 0; i < 56; i++) {
                bytes[i] = x.octet(2, i);
            }
            Due.is("the seal by key " + key, Due.bytes(x, 2, 56, 8), String.format("%016x", Due.digest(key, bytes)));
            Due.is("slot(0, 0) by key " + key, x.slot(0, 0), 1);
        }
    }

    /** Promise 1: "byte j of block i being i + 3 j, lowest 8 bits" */
    private static void bytesOfTheLargestBody() {
        for (int i = 0; i < 30; i++) {
            TwoSlots x = new TwoSlots(3, 29, 9L);
            for (int j = 0; j < 64; j++) {
                Due.is("byte " + j + " of block " + i, x.octet(3 + i, j), (i + 3 * j) % 256);
            }
        }
    }

    /** Promise 1: "the log's first record: SERIAL 1, ACTIVE 0, trying none, nothing REVOKED, this version as COUNTER" */
    private static void theFirstRecord() {
        for (int version : VERSIONS) {
            TwoSlots x = new TwoSlots(version, 0, 9L);
            int[] want = {1, 0, TwoSlots.NONE, 0, 0, version, 0, 0};
            for (int what = 0; what < 8; what++) {
                Due.is("record(" + what + ") of version " + version, x.record(what), want[what]);
            }
            Due.is("the first line", Due.bytes(x, 0, 0, 16), "0000000100ff0000" + String.format("%08x", version) + "0000005a");
        }
    }

    /** Promise 1: "No writes were counted" */
    private static void noWritesWereCounted() {
        TwoSlots x = new TwoSlots(3, 29, 9L);
        for (int what = 0; what < 9; what++) {
            Due.is("count(" + what + ")", x.count(what), 0);
        }
    }

    /** Promise 1: "it is off: nothing runs" */
    private static void itIsOff() {
        TwoSlots x = new TwoSlots(3, 0, 9L);
        Due.is("running()", x.running(), TwoSlots.NONE);
        Due.is("watchdog()", x.watchdog(), 0);
        Due.is("offer()", Due.offer(x, 3, 1, 0, 0), TwoSlots.STATE);
        Due.is("revoke(1)", x.revoke(1), TwoSlots.STATE);
        Due.is("start(): it is off, but not DOWN", x.start(), TwoSlots.STATE);
    }

    /** Promise 1: "The MAKER has nothing." */
    private static void theMakerHasNothing() {
        TwoSlots x = new TwoSlots(3, 29, 9L);
        Due.is("pack(-1)", x.pack(TwoSlots.NONE), TwoSlots.UNKNOWN);
        Due.is("pack(0)", x.pack(0), TwoSlots.UNKNOWN);
        Due.is("count(7)", x.count(7), 0);
    }

    /** Promise 1, of Terms 1: "64 SECTORS of 64 bytes, erased (255) at first." */
    private static void theRestIsErased() {
        for (int sector = 0; sector < 64; sector++) {
            boolean used = sector == 2 || sector == 3;
            TwoSlots x = new TwoSlots(3, 0, 9L);
            for (int j = sector == 0 ? 16 : 0; j < 64 && !used; j++) {
                Due.is("octet(" + sector + ", " + j + ")", x.octet(sector, j), 255);
            }
        }
    }
}
