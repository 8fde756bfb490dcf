/** The boundary cases of promise 5: offer, and what makes a header right. */
public final class Promise05EdgesTest {
    private static final long KEY = 77L;

    public static void main(String[] args) {
        notBelowTheCounter();
        toTheSlotThatIsNotActive();
        theHeaderIsErased();
        awaitedFromZeroOn();
        nothingRuns();
        itIsOnTrial();
        withoutARecord();
        noBytes();
        theFourBytesAtTheBegin();
        sizesOfAHeader();
        keysOfAHeader();
        sevenBytes();
        twentyEightBytes();
        theSeal();
        theSealOfAnotherKey();
        theBodysDigestIsNotLookedAt();
        revokedKeys();
        revokedBitsOfNoKey();
        whatWasOfferedStays();
        whatIsBadIsUsedUp();
        whatIsTakenIsUsedUp();
        downComesFirst();
        stateComesBeforeBad();
        refusedOnesChangeNothing();
        lostAtTheErase();
        Due.end();
    }

    private static TwoSlots packed() {
        TwoSlots x = Due.booted(5);
        x.make(6, 1, 0, 3);
        Due.is("pack(-1)", x.pack(TwoSlots.NONE), 64);
        return x;
    }

    /** What offer() answers to a header with one byte other, and the seal that is right then. */
    private static int offerAltered(int i, int mask) {
        TwoSlots x = packed();
        x.alter(i, mask);
        Due.reseal(x, KEY);
        return x.offer();
    }

    /** Promise 5, of Terms 5: "OFFERED is a header: RIGHT, its VERSION not below the COUNTER" and Terms 3: "VERSION (4, without sign)" */
    private static void notBelowTheCounter() {
        int least = Integer.MIN_VALUE;
        int most = Integer.MAX_VALUE;
        int[][] taken = {{5, 5}, {5, 6}, {0, 0}, {0, -1}, {most, most}, {most, least}, {least, least}, {least, -1}, {-1, -1}};
        for (int[] t : taken) {
            Due.is("offer() of " + t[1] + ", the counter being " + t[0], Due.offer(Due.booted(t[0]), t[1], 1, 0, 0), 1);
        }
        int[][] below = {{5, 4}, {5, 0}, {1, 0}, {least, most}, {least, 0}, {-1, -2}, {-1, 0}, {-1, most}, {-1, least}};
        for (int[] b : below) {
            Due.is("offer() of " + b[1] + ", the counter being " + b[0], Due.offer(Due.booted(b[0]), b[1], 1, 0, 0), TwoSlots.BAD);
        }
    }

    /** Promise 5, of Terms 5: "UPDATES go to the slot that is not ACTIVE" */
    private static void toTheSlotThatIsNotActive() {
        TwoSlots x = Due.booted(5);
        Due.is("offer() with slot 0 active", Due.offer(x, 6, 1, 0, 0), 1);
        x = Due.confirmed(6);
        Due.is("offer() with slot 1 active", Due.offer(x, 6, 1, 0, 0), 0);
        x = Due.updated(6);
        Due.is("offer() with slot 1 tried, but not active", Due.offer(x, 6, 1, 0, 0), 1);
    }

    /** Promise 5, of Terms 5: "the slot's header is erased", and of Terms 1: "An ERASE makes all bytes of a sector 255." */
    private static void theHeaderIsErased() {
        TwoSlots x = Due.booted(5);
        for (int i = 0; i < 64; i++) {
            x.rot(33, i, 255);
        }
        x.rot(32, 63, 255);
        x.rot(34, 0, 255);
        Due.is("offer()", Due.offer(x, 5, 30, 0, 0), 1);
        Due.is("the header", Due.bytes(x, 33, 0, 64), "ff".repeat(64));
        Due.is("octet(32, 63)", x.octet(32, 63), 0);
        Due.is("octet(34, 0)", x.octet(34, 0), 0);
        Due.is("count(0)", x.count(0), 1);
        Due.is("count(1)", x.count(1), 1);
    }

    /** Promise 5, of Terms 5: "blocks are awaited from 0 on" */
    private static void awaitedFromZeroOn() {
        TwoSlots x = Due.booted(5);
        Due.offer(x, 6, 3, 0, 0);
        Due.is("two of three blocks", Due.blocks(x, 0, 2), 1);
        Due.is("offer() of another one", Due.offer(x, 6, 30, 0, 100), 1);
        Due.is("count(8)", x.count(8), 30);
        Due.is("its first block", Due.blocks(x, 0, 1), 29);
        Due.is("octet(34, 0)", x.octet(34, 0), 100);
        Due.is("octet(36, 0)", x.octet(36, 0), 255);
        Due.is("offer() of the smallest one", Due.offer(x, 6, 1, 0, 7), 1);
        Due.is("its block", Due.blocks(x, 0, 1), 0);
        Due.is("octet(34, 0)", x.octet(34, 0), 7);
        Due.is("offer() behind the last block", Due.offer(x, 6, 2, 0, 7), 1);
        Due.is("count(8)", x.count(8), 2);
    }

    /** Promise 5: "STATE (nothing runs" and "the tape stays" */
    private static void nothingRuns() {
        TwoSlots x = new TwoSlots(5, 0, KEY);
        Due.is("offer()", Due.offer(x, 6, 1, 0, 0), TwoSlots.STATE);
        Due.is("count(7)", x.count(7), 64);
        Due.is("count(0)", x.count(0), 0);
        x.boot();
        Due.is("offer() of the tape that stayed", x.offer(), 1);
    }

    /** Promise 5: "or it is on trial; the tape stays" */
    private static void itIsOnTrial() {
        TwoSlots x = Due.onTrial(6);
        Due.is("offer()", Due.offer(x, 6, 1, 0, 0), TwoSlots.STATE);
        x.tick(19);
        Due.is("offer() before the last tick", x.offer(), TwoSlots.STATE);
        Due.is("count(7)", x.count(7), 64);
        x.confirm();
        Due.is("offer() of the tape that stayed", x.offer(), 0);
    }

    /** Promise 5, of Terms 2: "Without any nothing is REVOKED, the COUNTER is 0, BOOT runs nothing, and offer(), finish()" */
    private static void withoutARecord() {
        TwoSlots x = packed();
        Due.turnRecords(x);
        Due.is("offer()", x.offer(), TwoSlots.STATE);
        Due.is("count(7): the tape stays", x.count(7), 64);
        Due.turnRecords(x);
        Due.is("offer() with the record again", x.offer(), 1);
    }

    /** Promise 5: "BAD (no 64 bytes" */
    private static void noBytes() {
        TwoSlots x = Due.booted(5);
        Due.is("offer() without a tape", x.offer(), TwoSlots.BAD);
        x.make(6, 1, 0, 0);
        Due.is("offer() behind make()", x.offer(), TwoSlots.BAD);
        x.pack(TwoSlots.NONE);
        Due.is("offer()", x.offer(), 1);
        Due.is("offer() of what is used up", x.offer(), TwoSlots.BAD);
    }

    /** Promise 5, of Terms 3: "A HEADER is 64 bytes: 84, 87, 79, 83" */
    private static void theFourBytesAtTheBegin() {
        Due.is("offer() of a header that is sealed anew", offerAltered(0, 0), 1);
        for (int i = 0; i < 4; i++) {
            Due.is("offer() with byte " + i + " other by 1", offerAltered(i, 1), TwoSlots.BAD);
            Due.is("offer() with byte " + i + " other by 128", offerAltered(i, 128), TwoSlots.BAD);
        }
    }

    /** Promise 5, of Terms 3: "SIZE (4): 1 .. 30 blocks" */
    private static void sizesOfAHeader() {
        Due.is("offer() of size 0", offerAltered(11, 1), TwoSlots.BAD);
        Due.is("offer() of size 2", offerAltered(11, 1 ^ 2), 1);
        Due.is("offer() of size 30", offerAltered(11, 1 ^ 30), 1);
        Due.is("offer() of size 31", offerAltered(11, 1 ^ 31), TwoSlots.BAD);
        Due.is("offer() of size 255", offerAltered(11, 1 ^ 255), TwoSlots.BAD);
        for (int i = 8; i < 11; i++) {
            Due.is("offer() of a size whose byte " + i + " is 1", offerAltered(i, 1), TwoSlots.BAD);
            Due.is("offer() of a size whose byte " + i + " is 128", offerAltered(i, 128), TwoSlots.BAD);
        }
    }

    /** Promise 5, of Terms 3: "KEY (1): 0 .. 3" */
    private static void keysOfAHeader() {
        for (int k = 0; k < 4; k++) {
            Due.is("offer() of key " + k, offerAltered(12, k), 1);
        }
        int[] none = {4, 5, 8, 32, 33, 64, 128, 255};
        for (int k : none) {
            Due.is("offer() of key " + k, offerAltered(12, k), TwoSlots.BAD);
        }
    }

    /** Promise 5, of Terms 3: "seven bytes 0" */
    private static void sevenBytes() {
        for (int i = 13; i < 20; i++) {
            Due.is("offer() with byte " + i + " not 0", offerAltered(i, 1), TwoSlots.BAD);
        }
    }

    /** Promise 5, of Terms 3: "28 bytes 0" */
    private static void twentyEightBytes() {
        for (int i = 28; i < 56; i++) {
            Due.is("offer() with byte " + i + " not 0", offerAltered(i, 128), TwoSlots.BAD);
        }
    }

    /** Promise 5, of Terms 3: "the SEAL (8)", and "The SEAL is of the 56 bytes before it" */
    private static void theSeal() {
        for (int i = 0; i < 64; i++) {
            TwoSlots x = packed();
            x.alter(i, 1 << i % 8);
            Due.is("offer() with byte " + i + " other, not sealed anew", x.offer(), TwoSlots.BAD);
        }
    }

    /** Promise 5, of Terms 3: "from the key's number" */
    private static void theSealOfAnotherKey() {
        for (int k = 1; k < 4; k++) {
            TwoSlots x = packed();
            Due.reseal(x, KEY ^ k * 0x100000001B3L);
            Due.is("offer() of key 0, sealed by key " + k, x.offer(), TwoSlots.BAD);
        }
        TwoSlots other = new TwoSlots(5, 0, KEY + 1);
        other.make(6, 1, 0, 3);
        other.pack(TwoSlots.NONE);
        String header = Due.tape(other);
        TwoSlots x = packed();
        for (int i = 56; i < 64; i++) {
            x.alter(i, x.alter(i, 0) ^ Integer.parseInt(header.substring(2 * i, 2 * i + 2), 16));
        }
        Due.is("offer() of a header that another object's key has sealed", x.offer(), TwoSlots.BAD);
    }

    /** Promise 5, of Terms 3: "A header is RIGHT if all of that is so, but for the BODY'S DIGEST" */
    private static void theBodysDigestIsNotLookedAt() {
        for (int i = 20; i < 28; i++) {
            Due.is("offer() with byte " + i + " of the digest other", offerAltered(i, 255), 1);
        }
    }

    /** Promise 5, of Terms 3: "and its KEY is not REVOKED (by the newest record)" */
    private static void revokedKeys() {
        for (int revoked = 1; revoked < 4; revoked++) {
            TwoSlots x = Due.booted(5);
            Due.is("revoke(" + revoked + ")", x.revoke(revoked), 1);
            for (int k = 0; k < 4; k++) {
                Due.is("offer() of key " + k, Due.offer(x, 6, 1, k, 0), k == revoked ? TwoSlots.BAD : 1);
            }
        }
        TwoSlots x = Due.booted(5);
        x.revoke(3);
        Due.pokeRecord(x, 15, 91);
        Due.is("offer() of key 3: the record that revoked it is not whole", Due.offer(x, 6, 1, 3, 0), 1);
    }

    /** Promise 5, of Terms 2: "(Bits of REVOKED above key 3 do not matter.)" */
    private static void revokedBitsOfNoKey() {
        TwoSlots x = Due.booted(5);
        Due.pokeRecord(x, 7, 0xF0);
        for (int k = 0; k < 4; k++) {
            Due.is("offer() of key " + k, Due.offer(x, 6, 1, k, 0), 1);
        }
    }

    /** Promise 5: "what was offered before stays" */
    private static void whatWasOfferedStays() {
        TwoSlots x = Due.booted(5);
        Due.offer(x, 6, 2, 0, 0);
        Due.is("the first block", Due.blocks(x, 0, 1), 1);
        Due.is("offer() without a tape", x.offer(), TwoSlots.BAD);
        x.pack(1);
        Due.is("offer() of a block", x.offer(), TwoSlots.BAD);
        x.make(4, 1, 1, 9);
        x.pack(TwoSlots.NONE);
        Due.is("offer() below the counter", x.offer(), TwoSlots.BAD);
        Due.is("count(8)", x.count(8), 1);
        Due.is("count(0)", x.count(0), 6);
        x.make(6, 2, 0, 0);
        Due.is("the second block", Due.blocks(x, 1, 2), 0);
        Due.is("finish()", x.finish(), 1);
        Due.is("slot(1, 0)", x.slot(1, 0), 1);
    }

    /** Promise 5, of Terms 5: "do nothing else (but that what takes the tape uses it up)" */
    private static void whatIsBadIsUsedUp() {
        TwoSlots x = packed();
        x.alter(63, 1);
        String before = Due.look(x);
        Due.is("offer() of what is not right", x.offer(), TwoSlots.BAD);
        Due.is("all but the tape is as it was", Due.look(x), before.replace(" 64 0", " 0 0"));
        x = Due.booted(5);
        Due.offer(x, 4, 1, 0, 0);
        Due.is("count(7) behind what is below the counter", x.count(7), 0);
    }

    /** Promise 5, of Terms 5: "what takes the tape uses it up" */
    private static void whatIsTakenIsUsedUp() {
        TwoSlots x = packed();
        Due.is("offer()", x.offer(), 1);
        Due.is("count(7)", x.count(7), 0);
        Due.is("block(): the header is no block", x.block(), TwoSlots.BAD);
    }

    /** Promise 5, of Terms 5: "of several the first one in the order in which a call names them", and "to which slot. DOWN, STATE (nothing runs, or it is on trial; the tape stays), BAD" */
    private static void downComesFirst() {
        TwoSlots x = Due.booted(5);
        Due.down(x);
        Due.is("offer(): DOWN, nothing runs, and there is no tape", x.offer(), TwoSlots.DOWN);
        x.pack(TwoSlots.NONE);
        Due.is("offer(): DOWN, and nothing runs", x.offer(), TwoSlots.DOWN);
    }

    /** Promise 5, of Terms 5: "of several the first one in the order in which a call names them" */
    private static void stateComesBeforeBad() {
        TwoSlots x = new TwoSlots(5, 0, KEY);
        Due.is("offer(): nothing runs, and there is no tape", x.offer(), TwoSlots.STATE);
        Due.is("offer(): nothing runs, and below the counter", Due.offer(x, 4, 1, 0, 0), TwoSlots.STATE);
        Due.is("count(7)", x.count(7), 64);
        x = Due.onTrial(6);
        Due.is("offer(): on trial, and there is no tape", x.offer(), TwoSlots.STATE);
    }

    /** Promise 5, of Terms 5: "are told by calls that do nothing else" */
    private static void refusedOnesChangeNothing() {
        TwoSlots x = Due.onTrial(6);
        x.tick(3);
        x.pack(TwoSlots.NONE);
        String before = Due.look(x);
        Due.is("offer() on trial", x.offer(), TwoSlots.STATE);
        Due.is("nothing is other", Due.look(x), before);
        x = Due.updated(6);
        Due.down(x);
        x.pack(TwoSlots.NONE);
        before = Due.look(x);
        Due.is("offer() while DOWN", x.offer(), TwoSlots.DOWN);
        Due.is("nothing is other while DOWN", Due.look(x), before);
    }

    /** Promise 5: "what was offered before stays), LOST." */
    private static void lostAtTheErase() {
        TwoSlots x = Due.booted(5);
        Due.offer(x, 6, 2, 0, 0);
        Due.blocks(x, 0, 1);
        x.rot(33, 0, 255);
        x.rot(33, 1, 255);
        x.cut(0, 1);
        Due.is("offer()", Due.offer(x, 6, 2, 0, 0), TwoSlots.LOST);
        Due.is("the first two bytes", Due.bytes(x, 33, 0, 2), "ff00");
        Due.is("count(7)", x.count(7), 0);
        Due.is("count(8)", x.count(8), 0);
        x.start();
        x.boot();
        Due.is("finish(): nothing is offered", x.finish(), TwoSlots.STATE);
    }
}
