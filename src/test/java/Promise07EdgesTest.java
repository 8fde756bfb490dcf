/** The boundary cases of promise 7: finish. */
public final class Promise07EdgesTest {
    public static void main(String[] args) {
        nothingIsOffered();
        blocksAreAwaited();
        theDigestIsOfWhatIsInTheFlash();
        bytesBehindTheBodyDoNotCount();
        whatWasAlteredMayRotBack();
        anotherDigest();
        aDigestThatIsTold();
        bitsAreOnlyCleared();
        theSealComesAtTheEnd();
        lostAtTheRecord();
        theRecord();
        theRecordOfSlotZero();
        theRecordInAFullSector();
        theSmallestAndTheLargest();
        versionsOfEveryKind();
        aSecondUpdateTakesTheTriesAnew();
        withoutARecord();
        downComesFirst();
        stateComesBeforeBad();
        refusedOnesChangeNothing();
        Due.end();
    }

    private static TwoSlots filled(int size) {
        TwoSlots x = Due.booted(5);
        Due.offer(x, 6, size, 1, 9);
        Due.is("the last block", Due.blocks(x, 0, size), 0);
        return x;
    }

    /** Promise 7: "STATE (nothing is offered" */
    private static void nothingIsOffered() {
        TwoSlots x = new TwoSlots(5, 0, 77L);
        Due.is("finish() of a new object", x.finish(), TwoSlots.STATE);
        x = Due.booted(5);
        Due.is("finish() before any offer", x.finish(), TwoSlots.STATE);
        x = Due.updated(6);
        Due.is("finish() behind finish()", x.finish(), TwoSlots.STATE);
        Due.is("count(6)", x.count(6), 1);
        x = filled(1);
        x.boot();
        Due.is("finish() behind boot()", x.finish(), TwoSlots.STATE);
    }

    /** Promise 7, of Terms 5: "FINISHED, behind the last one", and "or blocks are awaited" */
    private static void blocksAreAwaited() {
        TwoSlots x = Due.booted(5);
        Due.offer(x, 6, 30, 0, 0);
        Due.is("finish() without any block", x.finish(), TwoSlots.STATE);
        Due.is("29 blocks", Due.blocks(x, 0, 29), 1);
        Due.is("finish() with one awaited", x.finish(), TwoSlots.STATE);
        Due.is("count(8): it is offered still", x.count(8), 1);
        Due.is("the last block", Due.blocks(x, 29, 30), 0);
        Due.is("finish()", x.finish(), 1);
    }

    /** Promise 7, of Terms 5: "if the body's digest (of what is in the flash) is right" */
    private static void theDigestIsOfWhatIsInTheFlash() {
        int[][] bytes = {{34, 0}, {34, 63}, {35, 0}, {36, 63}};
        for (int[] b : bytes) {
            TwoSlots x = filled(3);
            x.rot(b[0], b[1], 1);
            Due.is("finish() with byte " + b[1] + " of sector " + b[0] + " rotted", x.finish(), TwoSlots.BAD);
        }
        TwoSlots x = filled(3);
        Due.is("finish() with none", x.finish(), 1);
    }

    /** Promise 7, of Terms 3: "The BODY'S is of all bytes of its SIZE blocks" */
    private static void bytesBehindTheBodyDoNotCount() {
        TwoSlots x = filled(3);
        x.rot(37, 0, 255);
        x.rot(63, 63, 255);
        x.rot(32, 63, 255);
        Due.is("finish()", x.finish(), 1);
        Due.is("slot(1, 0)", x.slot(1, 0), 1);
    }

    /** Promise 7, of Terms 5: "(of what is in the flash)" */
    private static void whatWasAlteredMayRotBack() {
        TwoSlots x = Due.booted(5);
        Due.offer(x, 6, 1, 0, 0);
        x.pack(0);
        x.alter(63, 4);
        x.block();
        x.rot(34, 63, 4);
        Due.is("finish()", x.finish(), 1);
    }

    /** Promise 7, of Terms 5: "Another digest: BAD; nothing is offered any more." */
    private static void anotherDigest() {
        TwoSlots x = filled(2);
        x.rot(35, 63, 128);
        String before = Due.look(x);
        Due.is("finish()", x.finish(), TwoSlots.BAD);
        Due.is("nothing is other", Due.look(x), before);
        Due.is("the header", Due.bytes(x, 33, 0, 64), "ff".repeat(64));
        x.rot(35, 63, 128);
        Due.is("finish() of what has rotted back", x.finish(), TwoSlots.STATE);
        Due.is("revoke(2): nothing is offered", x.revoke(2), 1);
    }

    /** Promise 7, of Terms 5: "Another digest: BAD": the one that is told may be the wrong one, too. */
    private static void aDigestThatIsTold() {
        for (int i = 20; i < 28; i += 7) {
            TwoSlots x = Due.booted(5);
            x.make(6, 1, 0, 0);
            x.pack(TwoSlots.NONE);
            x.alter(i, 1);
            Due.reseal(x, 77L);
            Due.is("offer()", x.offer(), 1);
            Due.is("block()", Due.blocks(x, 0, 1), 0);
            Due.is("finish() with byte " + i + " other", x.finish(), TwoSlots.BAD);
        }
    }

    /** Promise 7, of Terms 1: "PROGRAMMED each byte becomes what it was and what is wanted, bit by bit (and)." */
    private static void bitsAreOnlyCleared() {
        TwoSlots x = filled(1);
        x.rot(33, 0, 4);
        x.rot(33, 63, 255);
        x.rot(33, 13, 1);
        Due.is("finish()", x.finish(), 1);
        Due.is("octet(33, 0)", x.octet(33, 0), 84 & 251);
        Due.is("octet(33, 63)", x.octet(33, 63), 0);
        Due.is("octet(33, 13)", x.octet(33, 13), 0);
        Due.is("slot(1, 1)", x.slot(1, 1), 0);
        Due.is("record(2)", x.record(2), 1);
    }

    /** Promise 7, of Terms 5: "the header's lines are programmed, the last one (with the SEAL) at the end" */
    private static void theSealComesAtTheEnd() {
        TwoSlots whole = filled(1);
        whole.finish();
        String header = Due.bytes(whole, 33, 0, 64);
        for (int n = 0; n < 4; n++) {
            TwoSlots x = filled(1);
            x.cut(n, 15);
            Due.is("finish() with cut(" + n + ", 15)", x.finish(), TwoSlots.LOST);
            int done = 16 * n + 15;
            Due.is("the header", Due.bytes(x, 33, 0, 64), header.substring(0, 2 * done) + "ff".repeat(64 - done));
            Due.is("slot(1, 1)", x.slot(1, 1), 0);
            Due.is("record(2): it is not tried", x.record(2), TwoSlots.NONE);
            Due.is("count(6)", x.count(6), 0);
        }
    }

    /** Promise 7, of Terms 5: "at the end, and a record that is TRYING the slot", and "BAD, LOST." */
    private static void lostAtTheRecord() {
        for (int tear = 0; tear < 16; tear++) {
            TwoSlots x = filled(1);
            x.cut(4, tear);
            Due.is("finish() with a tear of " + tear, x.finish(), TwoSlots.LOST);
            Due.is("slot(1, 0)", x.slot(1, 0), 1);
            Due.is("record(2)", x.record(2), TwoSlots.NONE);
            Due.is("count(6)", x.count(6), 0);
            x.start();
            Due.is("boot()", x.boot(), 0);
            Due.is("finish(): nothing is offered", x.finish(), TwoSlots.STATE);
        }
    }

    /** Promise 7, of Terms 5: "a record that is TRYING the slot, TRIES 3, is appended" */
    private static void theRecord() {
        TwoSlots x = filled(1);
        Due.is("finish()", x.finish(), 1);
        Due.is("the record", Due.bytes(x, 0, 16, 16), "00000002" + "00" + "01" + "03" + "00" + "00000005" + "0000005a");
        Due.is("count(0)", x.count(0), 6 + 5);
        Due.is("count(2)", x.count(2), 1);
        Due.is("running(): what ran runs on", x.running(), 0);
        Due.is("watchdog()", x.watchdog(), 0);
    }

    /** Promise 7: "What was offered is FINISHED: the slot." */
    private static void theRecordOfSlotZero() {
        TwoSlots x = Due.confirmed(6);
        Due.is("finish()", Due.update(x, 6, 30, 2, 9), 0);
        Due.is("record(1)", x.record(1), 1);
        Due.is("record(2)", x.record(2), 0);
        Due.is("record(3)", x.record(3), 3);
        Due.is("slot(0, 0)", x.slot(0, 0), 1);
    }

    /** Promise 7, of Terms 2: "if there is none, the other sector is erased, and it is that one's first line" */
    private static void theRecordInAFullSector() {
        TwoSlots x = Due.booted(5);
        for (int k = 1; k < 4; k++) {
            x.revoke(k);
        }
        Due.is("record(7)", x.record(7), 3);
        Due.is("finish()", Due.update(x, 6, 1, 0, 9), 1);
        Due.is("record(6)", x.record(6), 1);
        Due.is("record(7)", x.record(7), 0);
        Due.is("record(2)", x.record(2), 1);
        Due.is("count(0)", x.count(0), 3 + 6 + 4 + 2);
    }

    /** Promise 7, of Terms 3: "SIZE (4): 1 .. 30 blocks" */
    private static void theSmallestAndTheLargest() {
        int[] sizes = {1, 30};
        for (int size : sizes) {
            TwoSlots x = filled(size);
            Due.is("finish() of " + size, x.finish(), 1);
            Due.is("slot(1, 0)", x.slot(1, 0), 1);
            Due.is("slot(1, 3)", x.slot(1, 3), size);
            Due.is("boot()", x.boot(), 1);
        }
    }

    /** Promise 7, of Terms 3: "VERSION (4, without sign)", and "from its VERSION (as a long)" */
    private static void versionsOfEveryKind() {
        int[] versions = {0, -1, Integer.MAX_VALUE, Integer.MIN_VALUE};
        for (int version : versions) {
            TwoSlots x = Due.booted(0);
            Due.is("finish() of version " + version, Due.update(x, version, 2, 1, 9), 1);
            Due.is("slot(1, 0)", x.slot(1, 0), 1);
            Due.is("slot(1, 2)", x.slot(1, 2), version);
        }
    }

    /** Promise 7, of Terms 5: "TRIES 3": also of a slot that was tried before. */
    private static void aSecondUpdateTakesTheTriesAnew() {
        TwoSlots x = Due.updated(6);
        Due.pokeRecord(x, 6, 1);
        Due.is("record(3)", x.record(3), 1);
        Due.is("finish()", Due.update(x, 6, 1, 1, 4), 1);
        Due.is("record(3)", x.record(3), 3);
        Due.is("record(0)", x.record(0), 3);
    }

    /** Promise 7, of Terms 2: "and offer(), finish(), confirm(), revoke() are STATE" */
    private static void withoutARecord() {
        TwoSlots x = filled(1);
        Due.turnRecords(x);
        Due.is("finish()", x.finish(), TwoSlots.STATE);
        Due.is("count(0)", x.count(0), 6);
        Due.turnRecords(x);
        Due.is("finish(): it is offered still", x.finish(), 1);
    }

    /** Promise 7, of Terms 5: "of several the first one in the order in which a call names them", and "the slot. DOWN, STATE (nothing is offered, or blocks are awaited), BAD" */
    private static void downComesFirst() {
        TwoSlots x = Due.booted(5);
        Due.down(x);
        Due.is("finish(): DOWN, and nothing is offered", x.finish(), TwoSlots.DOWN);
    }

    /** Promise 7, of Terms 5: "of several the first one in the order in which a call names them" */
    private static void stateComesBeforeBad() {
        TwoSlots x = Due.booted(5);
        Due.offer(x, 6, 2, 0, 0);
        Due.blocks(x, 0, 1);
        x.rot(34, 0, 1);
        Due.is("finish(): a block is awaited, and the digest is another", x.finish(), TwoSlots.STATE);
        Due.is("count(8): it is offered still", x.count(8), 1);
        x.rot(34, 0, 1);
        Due.is("the last block", Due.blocks(x, 1, 2), 0);
        x.rot(34, 0, 1);
        Due.turnRecords(x);
        Due.is("finish(): there is no record, and the digest is another", x.finish(), TwoSlots.STATE);
    }

    /** Promise 7, of Terms 5: "are told by calls that do nothing else" */
    private static void refusedOnesChangeNothing() {
        TwoSlots x = Due.booted(5);
        Due.offer(x, 6, 2, 0, 0);
        Due.blocks(x, 0, 1);
        x.pack(1);
        String before = Due.look(x);
        Due.is("finish() with a block awaited", x.finish(), TwoSlots.STATE);
        Due.is("nothing is other", Due.look(x), before);
        Due.is("block(): the tape stayed", x.block(), 0);
        Due.is("finish()", x.finish(), 1);
    }
}
