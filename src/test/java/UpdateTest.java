/** Promises 5 to 7: offer, block, finish. */
public final class UpdateTest {
    public static void main(String[] args) {
        offers();
        offerWantsWhatRuns();
        offerTakesTheTape();
        offerWantsARightHeader();
        offerLooksAtVersionsWithoutSign();
        offerLooksAtRevokedKeys();
        offerAgain();
        blocksComeInOrder();
        blockIsErasedFirst();
        blockWantsATape();
        finishes();
        finishWantsAllBlocks();
        finishLooksAtTheFlash();
        finishTakesVersionsWithoutSign();
        withoutARecord();
        largestImage();
        toSlotZero();
        Due.end();
    }

    private static void offers() {
        TwoSlots x = Due.booted(5);
        x.rot(33, 0, 255);
        x.rot(33, 63, 1);
        Due.is("offer()", Due.offer(x, 5, 3, 1, 0), 1);
        Due.is("the slot's header", Due.bytes(x, 33, 0, 64), "f".repeat(128));
        Due.is("behind offer()", Due.look(x),
            "runs 0 watchdog 0 record 1 0 -1 0 0 5 0 0 slot 1 1 5 1 0 slot 0 0 0 0 0 count 1 1 0 1 0 0 0 0 3");
    }

    private static void offerWantsWhatRuns() {
        TwoSlots x = new TwoSlots(5, 0, 77L);
        Due.is("offer() when nothing runs", Due.offer(x, 6, 1, 0, 0), TwoSlots.STATE);
        Due.is("count(7): the tape stays", x.count(7), 64);
        x.boot();
        Due.is("offer() of the tape that stayed", x.offer(), 1);
        x.pack(0);
        x.block();
        x.finish();
        Due.is("offer() when a slot is tried, but not run", Due.offer(x, 6, 1, 0, 0), 1);
        Due.is("blocks", Due.blocks(x, 0, 1), 0);
        Due.is("finish()", x.finish(), 1);
        x.boot();
        Due.is("offer() on trial", Due.offer(x, 6, 1, 0, 0), TwoSlots.STATE);
        Due.is("count(7): the tape stays", x.count(7), 64);
    }

    private static void offerTakesTheTape() {
        TwoSlots x = Due.booted(5);
        Due.is("offer() without a tape", x.offer(), TwoSlots.BAD);
        Due.is("offer()", Due.offer(x, 5, 2, 0, 0), 1);
        Due.is("offer() once more without a tape", x.offer(), TwoSlots.BAD);
        Due.is("count(8): what was offered stays", x.count(8), 2);
        x.pack(0);
        Due.is("offer() of a block", x.offer(), TwoSlots.BAD);
        Due.is("count(7): it is used up", x.count(7), 0);
        Due.is("count(8): what was offered stays", x.count(8), 2);
        Due.is("blocks of what was offered", Due.blocks(x, 0, 2), 0);
        Due.is("finish() of what was offered", x.finish(), 1);
    }

    private static void offerWantsARightHeader() {
        for (int i = 0; i < 64; i++) {
            TwoSlots x = Due.booted(5);
            x.make(6, 1, 0, 3);
            x.pack(TwoSlots.NONE);
            x.alter(i, 1);
            Due.is("offer() with byte " + i + " altered", x.offer(), TwoSlots.BAD);
            Due.is("count(0)", x.count(0), 0);
            Due.is("count(7)", x.count(7), 0);
        }
    }

    private static void offerLooksAtVersionsWithoutSign() {
        TwoSlots x = Due.booted(5);
        Due.is("offer() of version 4", Due.offer(x, 4, 1, 0, 0), TwoSlots.BAD);
        Due.is("offer() of version 0", Due.offer(x, 0, 1, 0, 0), TwoSlots.BAD);
        Due.is("offer() of version 5", Due.offer(x, 5, 1, 0, 0), 1);
        Due.is("offer() of version -1", Due.offer(x, -1, 1, 0, 0), 1);
        Due.is("offer() of the least", Due.offer(x, Integer.MIN_VALUE, 1, 0, 0), 1);
        x = Due.booted(-2);
        Due.is("offer() of version 5 behind -2", Due.offer(x, 5, 1, 0, 0), TwoSlots.BAD);
        Due.is("offer() of version -3 behind -2", Due.offer(x, -3, 1, 0, 0), TwoSlots.BAD);
        Due.is("offer() of version -1 behind -2", Due.offer(x, -1, 1, 0, 0), 1);
    }

    private static void offerLooksAtRevokedKeys() {
        TwoSlots x = Due.booted(5);
        x.revoke(2);
        Due.is("offer() with a revoked key", Due.offer(x, 5, 1, 2, 0), TwoSlots.BAD);
        Due.is("offer() with key 1", Due.offer(x, 5, 1, 1, 0), 1);
        Due.is("offer() with key 3", Due.offer(x, 5, 1, 3, 0), 1);
    }

    private static void offerAgain() {
        TwoSlots x = Due.booted(5);
        Due.offer(x, 5, 3, 0, 0);
        Due.blocks(x, 0, 2);
        Due.is("offer() of another", Due.offer(x, 6, 2, 0, 40), 1);
        Due.is("count(8)", x.count(8), 2);
        Due.is("blocks from 0 on", Due.blocks(x, 0, 2), 0);
        Due.is("finish()", x.finish(), 1);
        Due.is("slot(1, 0)", x.slot(1, 0), 1);
        Due.is("slot(1, 2)", x.slot(1, 2), 6);
    }

    private static void blocksComeInOrder() {
        TwoSlots x = Due.booted(5);
        Due.is("block() without an offer", x.block(), TwoSlots.STATE);
        Due.offer(x, 5, 3, 0, 100);
        for (int i = 0; i < 3; i++) {
            x.pack(i);
            Due.is("block() " + i, x.block(), 2 - i);
            Due.is("count(0)", x.count(0), 1 + 5 * (i + 1));
            Due.is("count(1)", x.count(1), 2 + i);
            for (int j = 0; j < 64; j += 21) {
                Due.is("octet(" + (34 + i) + ", " + j + ")", x.octet(34 + i, j), 100 + 5 * i + j & 255);
            }
        }
        x.pack(0);
        Due.is("block() when none is awaited", x.block(), TwoSlots.STATE);
        Due.is("count(7): the tape stays", x.count(7), 64);
        Due.is("octet(37, 0)", x.octet(37, 0), 255);
    }

    private static void blockIsErasedFirst() {
        TwoSlots x = Due.booted(5);
        for (int j = 0; j < 64; j++) {
            x.rot(34, j, 255);
        }
        Due.offer(x, 5, 1, 0, 200);
        Due.blocks(x, 0, 1);
        for (int j = 0; j < 64; j++) {
            Due.is("octet(34, " + j + ")", x.octet(34, j), 200 + j & 255);
        }
    }

    private static void blockWantsATape() {
        TwoSlots x = Due.booted(5);
        Due.offer(x, 5, 2, 0, 100);
        Due.is("block() without a tape", x.block(), TwoSlots.BAD);
        Due.is("count(8)", x.count(8), 2);
        x.pack(0);
        Due.is("block()", x.block(), 1);
        Due.is("count(7)", x.count(7), 0);
        Due.is("block() of what is used up", x.block(), TwoSlots.BAD);
        Due.is("count(0)", x.count(0), 6);
    }

    private static void finishes() {
        TwoSlots x = Due.booted(5);
        x.make(8, 2, 3, 9);
        x.pack(TwoSlots.NONE);
        String header = Due.tape(x);
        x.offer();
        Due.blocks(x, 0, 2);
        Due.is("finish()", x.finish(), 1);
        Due.is("the slot's header", Due.bytes(x, 33, 0, 64), header);
        Due.is("the record", Due.bytes(x, 0, 16, 16), "0000000200010300000000050000005a");
        Due.is("behind finish()", Due.look(x),
            "runs 0 watchdog 0 record 2 0 1 3 0 5 0 1 slot 1 1 5 1 0 slot 1 1 8 2 3 count 16 3 1 1 0 0 1 0 0");
        Due.is("finish() once more", x.finish(), TwoSlots.STATE);
        x.pack(0);
        Due.is("block() behind finish()", x.block(), TwoSlots.STATE);
    }

    private static void finishWantsAllBlocks() {
        TwoSlots x = Due.booted(5);
        Due.is("finish() without an offer", x.finish(), TwoSlots.STATE);
        Due.offer(x, 5, 2, 0, 0);
        Due.is("finish() without blocks", x.finish(), TwoSlots.STATE);
        Due.blocks(x, 0, 1);
        Due.is("finish() with one of two", x.finish(), TwoSlots.STATE);
        Due.is("count(8)", x.count(8), 1);
        Due.blocks(x, 1, 2);
        Due.is("finish()", x.finish(), 1);
    }

    private static void finishLooksAtTheFlash() {
        TwoSlots x = Due.booted(5);
        Due.offer(x, 5, 2, 0, 0);
        Due.blocks(x, 0, 2);
        x.rot(35, 63, 128);
        String before = Due.bytes(x, 33, 0, 64);
        Due.is("finish() of what has rotted", x.finish(), TwoSlots.BAD);
        Due.is("the slot's header", Due.bytes(x, 33, 0, 64), before);
        Due.is("count(0)", x.count(0), 11);
        Due.is("count(6)", x.count(6), 0);
        x.rot(35, 63, 128);
        Due.is("finish() once more: nothing is offered", x.finish(), TwoSlots.STATE);
        Due.is("running()", x.running(), 0);

        x = Due.booted(5);
        Due.offer(x, 5, 1, 0, 0);
        x.pack(0);
        x.alter(7, 4);
        x.block();
        x.rot(34, 7, 4);
        Due.is("finish() of what was altered and has rotted back", x.finish(), 1);

        x = Due.booted(5);
        Due.offer(x, 5, 1, 0, 0);
        Due.blocks(x, 0, 1);
        x.rot(33, 0, 4);
        Due.is("finish() into a header that has rotted", x.finish(), 1);
        Due.is("octet(33, 0): bits are only cleared", x.octet(33, 0), 80);
        Due.is("slot(1, 1)", x.slot(1, 1), 0);
        Due.is("record(2)", x.record(2), 1);
    }

    private static void finishTakesVersionsWithoutSign() {
        int[] versions = {-1, Integer.MIN_VALUE, Integer.MAX_VALUE};
        for (int version : versions) {
            TwoSlots x = Due.booted(5);
            Due.is("finish() of version " + version, Due.update(x, version, 2, 1, 9), 1);
            Due.is("slot(1, 0) of version " + version, x.slot(1, 0), 1);
            Due.is("boot() of version " + version, x.boot(), 1);
        }
    }

    private static void withoutARecord() {
        TwoSlots x = Due.booted(5);
        Due.offer(x, 6, 2, 0, 0);
        Due.blocks(x, 0, 1);
        x.rot(0, 15, 1);
        Due.is("block() without a record", Due.blocks(x, 1, 2), 0);
        Due.is("finish() without a record", x.finish(), TwoSlots.STATE);
        x.pack(TwoSlots.NONE);
        Due.is("offer() without a record", x.offer(), TwoSlots.STATE);
        Due.is("count(7): the tape stays", x.count(7), 64);
        x.rot(0, 15, 1);
        Due.is("finish() with the record again", x.finish(), 1);
    }

    private static void largestImage() {
        TwoSlots x = Due.booted(5);
        Due.is("finish() of 30 blocks", Due.update(x, 9, 30, 1, 77), 1);
        Due.is("slot(1, 0)", x.slot(1, 0), 1);
        Due.is("slot(1, 3)", x.slot(1, 3), 30);
        Due.is("octet(63, 63)", x.octet(63, 63), 77 + 5 * 29 + 63 & 255);
        Due.is("count(0)", x.count(0), 1 + 30 * 5 + 5);
    }

    private static void toSlotZero() {
        TwoSlots x = Due.booted(5);
        Due.is("confirm()", Due.settle(x, 6, 1, 0, 0), 6);
        Due.is("offer() goes to slot 0 now", Due.offer(x, 7, 30, 0, 11), 0);
        Due.is("octet(2, 0)", x.octet(2, 0), 255);
        Due.is("blocks", Due.blocks(x, 0, 30), 0);
        Due.is("octet(3, 0)", x.octet(3, 0), 11);
        Due.is("octet(32, 63)", x.octet(32, 63), 11 + 5 * 29 + 63 & 255);
        Due.is("octet(33, 0): slot 1 stays", x.octet(33, 0), 84);
        Due.is("finish()", x.finish(), 0);
        Due.is("slot(0, 0)", x.slot(0, 0), 1);
        Due.is("record(2)", x.record(2), 0);
    }
}
