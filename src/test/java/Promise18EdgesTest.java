/** The boundary cases of promise 18: slot, and what is right and good in the flash. */
public final class Promise18EdgesTest {
    private static final long KEY = 77L;

    public static void main(String[] args) {
        noSuchSlot();
        noSuchQuestion();
        unknownComesBeforeOutside();
        zeroOfOthers();
        aRightOneThatIsNotGood();
        everyByteOfTheHeader();
        sizesInTheFlash();
        keysInTheFlash();
        bytesThatMustBeZero();
        theBodysDigestIsNotLookedAt();
        revokedKeys();
        notBelowTheCounter();
        everyByteOfTheBody();
        theLargestBody();
        bytesBehindTheBody();
        versionsOfEveryKind();
        withoutARecordNothingIsRevoked();
        withoutARecordTheCounterIsZero();
        worksWhileDown();
        Due.end();
    }

    /** A byte of slot 0's header becomes other, and the seal what is right then. */
    private static void resealed(TwoSlots x, int i, int value) {
        Due.poke(x, 2, i, value);
        int[] bytes = new int[56];
        for (int j = 0; j < 56; j++) {
            bytes[j] = x.octet(2, j);
        }
        long seal = Due.digest(KEY ^ bytes[12] * 0x100000001B3L, bytes);
        for (int j = 56; j < 64; j++) {
            Due.poke(x, 2, j, (int) (seal >>> 8 * (63 - j)) & 255);
        }
    }

    private static int rightWith(int i, int value) {
        TwoSlots x = new TwoSlots(5, 0, KEY);
        resealed(x, i, value);
        return x.slot(0, 1);
    }

    /** Promise 18: "UNKNOWN, OUTSIDE.": there is no such slot. */
    private static void noSuchSlot() {
        TwoSlots x = new TwoSlots(5, 0, KEY);
        Due.is("slot(0, 0)", x.slot(0, 0), 1);
        Due.is("slot(1, 0)", x.slot(1, 0), 0);
        int[] none = {-1, 2, 255, Integer.MAX_VALUE, Integer.MIN_VALUE};
        for (int s : none) {
            Due.is("slot(" + s + ", 0)", x.slot(s, 0), TwoSlots.UNKNOWN);
        }
    }

    /** Promise 18: "Of a slot: what = 0 whether it is GOOD (1, 0), 1 whether its header is RIGHT; of a RIGHT one 2 VERSION, 3 SIZE, 4 KEY" */
    private static void noSuchQuestion() {
        TwoSlots x = Due.booted(5);
        Due.update(x, 9, 2, 3, 0);
        int[] want = {1, 1, 9, 2, 3};
        for (int what = 0; what < 5; what++) {
            Due.is("slot(1, " + what + ")", x.slot(1, what), want[what]);
        }
        int[] outside = {-1, 5, Integer.MAX_VALUE, Integer.MIN_VALUE};
        for (int what : outside) {
            Due.is("slot(1, " + what + ")", x.slot(1, what), TwoSlots.OUTSIDE);
        }
        x.rot(33, 0, 1);
        Due.is("slot(1, 5) of one that is not right", x.slot(1, 5), TwoSlots.OUTSIDE);
    }

    /** Promise 18, of Terms 5: "of several the first one in the order in which a call names them" */
    private static void unknownComesBeforeOutside() {
        TwoSlots x = new TwoSlots(5, 0, KEY);
        Due.is("slot(2, 5)", x.slot(2, 5), TwoSlots.UNKNOWN);
        Due.is("slot(-1, -1)", x.slot(-1, -1), TwoSlots.UNKNOWN);
    }

    /** Promise 18: "(0 of others)" */
    private static void zeroOfOthers() {
        TwoSlots x = Due.updated(6);
        x.rot(33, 63, 1);
        TwoSlots empty = new TwoSlots(5, 0, KEY);
        for (int what = 0; what < 5; what++) {
            Due.is("slot(1, " + what + ") of one that has rotted", x.slot(1, what), 0);
            Due.is("slot(1, " + what + ") of an erased one", empty.slot(1, what), 0);
        }
    }

    /** Promise 18: "of a RIGHT one 2 VERSION, 3 SIZE, 4 KEY": it need not be GOOD. */
    private static void aRightOneThatIsNotGood() {
        TwoSlots x = Due.booted(5);
        Due.update(x, -9, 2, 3, 0);
        x.rot(34, 0, 1);
        int[] want = {0, 1, -9, 2, 3};
        for (int what = 0; what < 5; what++) {
            Due.is("slot(1, " + what + ")", x.slot(1, what), want[what]);
        }
    }

    /** Promise 18, of Terms 3: "A header is RIGHT if all of that is so" */
    private static void everyByteOfTheHeader() {
        TwoSlots x = new TwoSlots(5, 0, KEY);
        for (int i = 0; i < 64; i++) {
            x.rot(2, i, 1 << i % 8);
            Due.is("slot(0, 1) with byte " + i + " rotted", x.slot(0, 1), 0);
            x.rot(2, i, 1 << i % 8);
        }
        Due.is("slot(0, 1)", x.slot(0, 1), 1);
    }

    /** Promise 18, of Terms 3: "SIZE (4): 1 .. 30 blocks" */
    private static void sizesInTheFlash() {
        int[][] sizes = {{0, 0}, {1, 1}, {30, 1}, {31, 0}, {255, 0}};
        for (int[] size : sizes) {
            Due.is("slot(0, 1) of size " + size[0], rightWith(11, size[0]), size[1]);
        }
        Due.is("slot(0, 1) of a size below 0", rightWith(8, 255), 0);
        Due.is("slot(0, 1) of size 257", rightWith(10, 1), 0);
        TwoSlots x = new TwoSlots(5, 0, KEY);
        resealed(x, 11, 30);
        Due.is("slot(0, 3)", x.slot(0, 3), 30);
        Due.is("slot(0, 0): its body has another digest", x.slot(0, 0), 0);
    }

    /** Promise 18, of Terms 3: "KEY (1): 0 .. 3" */
    private static void keysInTheFlash() {
        int[][] keys = {{0, 1}, {3, 1}, {4, 0}, {32, 0}, {128, 0}, {255, 0}};
        for (int[] k : keys) {
            Due.is("slot(0, 1) of key " + k[0], rightWith(12, k[0]), k[1]);
        }
    }

    /** Promise 18, of Terms 3: "seven bytes 0; the BODY'S DIGEST (8); 28 bytes 0" */
    private static void bytesThatMustBeZero() {
        int[] edges = {13, 19, 28, 55};
        for (int i : edges) {
            Due.is("slot(0, 1) with byte " + i + " not 0", rightWith(i, 1), 0);
        }
    }

    /** Promise 18, of Terms 3: "but for the BODY'S DIGEST" */
    private static void theBodysDigestIsNotLookedAt() {
        int[] edges = {20, 27};
        for (int i : edges) {
            TwoSlots x = new TwoSlots(5, 0, KEY);
            resealed(x, i, x.octet(2, i) ^ 1);
            Due.is("slot(0, 1) with byte " + i + " of the digest other", x.slot(0, 1), 1);
            Due.is("slot(0, 0) with byte " + i + " of the digest other", x.slot(0, 0), 0);
        }
    }

    /** Promise 18, of Terms 3: "its KEY is not REVOKED (by the newest record)" */
    private static void revokedKeys() {
        for (int k = 0; k < 4; k++) {
            TwoSlots x = Due.booted(5);
            Due.update(x, 6, 1, k, 0);
            for (int revoked = 0; revoked < 8; revoked++) {
                Due.pokeRecord(x, 7, 1 << revoked);
                Due.is("slot(1, 1) of key " + k + ", REVOKED being " + (1 << revoked), x.slot(1, 1), revoked == k ? 0 : 1);
            }
        }
    }

    /** Promise 18, of Terms 3: "its VERSION (without sign) is not below the COUNTER" */
    private static void notBelowTheCounter() {
        int[][] first = {{5, 5, 1}, {5, 4, 1}, {5, 6, 0}, {0, 0, 1}, {0, 1, 0}, {127, 128, 0}, {255, 255, 1}, {254, 255, 0}};
        for (int[] f : first) {
            TwoSlots x = new TwoSlots(f[0] << 24, 0, KEY);
            Due.pokeRecord(x, 8, f[1]);
            Due.is("slot(0, 0) of version " + f[0] + " and counter " + f[1] + ", as highest bytes", x.slot(0, 0), f[2]);
            Due.is("slot(0, 1)", x.slot(0, 1), 1);
        }
        TwoSlots x = new TwoSlots(5, 0, KEY);
        Due.pokeRecord(x, 11, 6);
        Due.is("slot(0, 0) of version 5 and counter 6", x.slot(0, 0), 0);
        Due.pokeRecord(x, 11, 4);
        Due.is("slot(0, 0) of version 5 and counter 4", x.slot(0, 0), 1);
    }

    /** Promise 18, of Terms 3: "and its body's digest is the one that is told" */
    private static void everyByteOfTheBody() {
        TwoSlots x = new TwoSlots(5, 1, KEY);
        for (int i = 0; i < 128; i++) {
            x.rot(3 + i / 64, i % 64, 1 << i % 8);
            Due.is("slot(0, 0) with body byte " + i + " rotted", x.slot(0, 0), 0);
            x.rot(3 + i / 64, i % 64, 1 << i % 8);
        }
        Due.is("slot(0, 0)", x.slot(0, 0), 1);
    }

    /** Promise 18, of Terms 3: "of all bytes of its SIZE blocks" */
    private static void theLargestBody() {
        TwoSlots x = new TwoSlots(5, 29, KEY);
        Due.is("slot(0, 0)", x.slot(0, 0), 1);
        x.rot(33, 0, 255);
        Due.is("slot(0, 0) with the other slot's header rotted", x.slot(0, 0), 1);
        x.rot(32, 63, 1);
        Due.is("slot(0, 0) with its last byte rotted", x.slot(0, 0), 0);
        x = Due.booted(5);
        Due.update(x, 6, 30, 0, 0);
        Due.is("slot(1, 0)", x.slot(1, 0), 1);
        x.rot(63, 63, 1);
        Due.is("slot(1, 0) with its last byte rotted", x.slot(1, 0), 0);
    }

    /** Promise 18, of Terms 3: "of all bytes of its SIZE blocks": of no others. */
    private static void bytesBehindTheBody() {
        TwoSlots x = new TwoSlots(5, 28, KEY);
        x.rot(32, 0, 255);
        x.rot(1, 63, 255);
        Due.is("slot(0, 0)", x.slot(0, 0), 1);
    }

    /** Promise 18, of Terms 3: "VERSION (4, without sign)" */
    private static void versionsOfEveryKind() {
        int[] versions = {0, 0x01020304, -1, Integer.MAX_VALUE, Integer.MIN_VALUE};
        for (int version : versions) {
            TwoSlots x = new TwoSlots(version, 0, KEY);
            Due.is("slot(0, 2) of version " + version, x.slot(0, 2), version);
            Due.is("slot(0, 0) of version " + version, x.slot(0, 0), 1);
        }
    }

    /** Promise 18, of Terms 2: "Without any nothing is REVOKED" */
    private static void withoutARecordNothingIsRevoked() {
        TwoSlots x = Due.confirmed(5);
        x.revoke(0);
        Due.is("slot(0, 1)", x.slot(0, 1), 0);
        Due.turnRecords(x);
        Due.is("slot(0, 1) without a record", x.slot(0, 1), 1);
        Due.is("slot(0, 4) without a record", x.slot(0, 4), 0);
    }

    /** Promise 18, of Terms 2: "the COUNTER is 0" */
    private static void withoutARecordTheCounterIsZero() {
        TwoSlots x = Due.confirmed(-1);
        Due.is("slot(0, 0)", x.slot(0, 0), 0);
        Due.turnRecords(x);
        Due.is("slot(0, 0) without a record", x.slot(0, 0), 1);
        Due.is("slot(1, 0) without a record", x.slot(1, 0), 1);
        x = new TwoSlots(0, 0, KEY);
        Due.turnRecords(x);
        Due.is("slot(0, 0) of version 0 without a record", x.slot(0, 0), 1);
    }

    /** Promise 18: "(0 of others). UNKNOWN, OUTSIDE.": DOWN is not among its answers. */
    private static void worksWhileDown() {
        TwoSlots x = Due.booted(5);
        Due.down(x);
        int[] want = {1, 1, 5, 1, 0};
        for (int what = 0; what < 5; what++) {
            Due.is("slot(0, " + what + ")", x.slot(0, what), want[what]);
        }
        Due.is("slot(2, 0)", x.slot(2, 0), TwoSlots.UNKNOWN);
        Due.is("slot(0, 5)", x.slot(0, 5), TwoSlots.OUTSIDE);
    }
}
