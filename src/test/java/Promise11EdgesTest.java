/** The boundary cases of promise 11: revoke. */
public final class Promise11EdgesTest {
    public static void main(String[] args) {
        noSuchKey();
        firstAndLastKey();
        itWasAlready();
        allKeysButTheOneThatRuns();
        bitsAboveKeyThree();
        nothingRuns();
        itIsOnTrial();
        somethingIsOffered();
        aSlotIsBeingTried();
        theKeyOfWhatRuns();
        theKeyOfTheOtherSlot();
        withoutARecord();
        theRecordInAFullSector();
        refusedOnesChangeNothing();
        downComesFirst();
        unknownComesBeforeState();
        stateComesBeforeZero();
        lostAtTheRecord();
        whatWasAlreadyWritesNothing();
        aRecordThatIsNotWhole();
        Due.end();
    }

    /** Promise 11: "UNKNOWN (the key)" */
    private static void noSuchKey() {
        TwoSlots x = Due.booted(5);
        int[] none = {-1, 4, 32, 33, Integer.MAX_VALUE, Integer.MIN_VALUE};
        for (int k : none) {
            Due.is("revoke(" + k + ")", x.revoke(k), TwoSlots.UNKNOWN);
        }
        Due.is("record(0)", x.record(0), 1);
    }

    /** Promise 11, of Terms 2: "REVOKED (keys as bits)", and "A key is REVOKED: a record with it is appended" */
    private static void firstAndLastKey() {
        TwoSlots x = Due.booted(5);
        Due.is("revoke(3)", x.revoke(3), 1);
        Due.is("record(4)", x.record(4), 8);
        x = Due.confirmed(6);
        Due.is("revoke(0)", x.revoke(0), 1);
        Due.is("record(4)", x.record(4), 1);
        Due.is("record(1)", x.record(1), 1);
        Due.is("record(5)", x.record(5), 6);
    }

    /** Promise 11: "0: it was already (no record)" */
    private static void itWasAlready() {
        TwoSlots x = Due.booted(5);
        Due.is("revoke(1)", x.revoke(1), 1);
        Due.is("revoke(1) again", x.revoke(1), 0);
        Due.is("record(0)", x.record(0), 2);
        Due.is("count(0)", x.count(0), 1);
        Due.is("count(2)", x.count(2), 1);
        Due.is("revoke(2): not another key", x.revoke(2), 1);
        Due.is("revoke(1) behind another", x.revoke(1), 0);
    }

    /** Promise 11: "or what runs has that key" */
    private static void allKeysButTheOneThatRuns() {
        TwoSlots x = Due.booted(5);
        for (int k = 1; k < 4; k++) {
            Due.is("revoke(" + k + ")", x.revoke(k), 1);
        }
        Due.is("record(4)", x.record(4), 14);
        Due.is("revoke(0)", x.revoke(0), TwoSlots.STATE);
        Due.is("boot()", x.boot(), 0);
    }

    /** Promise 11, of Terms 2: "(Bits of REVOKED above key 3 do not matter.)" */
    private static void bitsAboveKeyThree() {
        TwoSlots x = Due.booted(5);
        Due.pokeRecord(x, 7, 0xF0);
        for (int k = 1; k < 4; k++) {
            Due.is("revoke(" + k + ")", x.revoke(k), 1);
        }
        Due.is("boot()", x.boot(), 0);
    }

    /** Promise 11: "STATE (nothing runs" */
    private static void nothingRuns() {
        TwoSlots x = new TwoSlots(5, 0, 77L);
        Due.is("revoke(1) of a new object", x.revoke(1), TwoSlots.STATE);
        x = Due.booted(5);
        x.rot(3, 0, 1);
        x.boot();
        Due.is("revoke(1) behind a boot that runs nothing", x.revoke(1), TwoSlots.STATE);
        x = Due.booted(5);
        Due.down(x);
        x.start();
        Due.is("revoke(1) behind start()", x.revoke(1), TwoSlots.STATE);
    }

    /** Promise 11: "it is on trial" */
    private static void itIsOnTrial() {
        TwoSlots x = Due.onTrial(6);
        Due.pokeRecord(x, 5, 255);
        Due.is("record(2): the newest is trying none", x.record(2), TwoSlots.NONE);
        Due.is("revoke(2)", x.revoke(2), TwoSlots.STATE);
        x.tick(19);
        Due.is("revoke(2) before the last tick", x.revoke(2), TwoSlots.STATE);
        x.confirm();
        Due.is("revoke(2) behind confirm()", x.revoke(2), 1);
    }

    /** Promise 11: "something is offered" */
    private static void somethingIsOffered() {
        TwoSlots x = Due.booted(5);
        Due.offer(x, 6, 1, 1, 0);
        Due.is("revoke(2) with a block awaited", x.revoke(2), TwoSlots.STATE);
        Due.blocks(x, 0, 1);
        Due.is("revoke(2) with none awaited", x.revoke(2), TwoSlots.STATE);
        x.rot(34, 0, 1);
        Due.is("finish()", x.finish(), TwoSlots.BAD);
        Due.is("revoke(2) when it is offered no more", x.revoke(2), 1);
    }

    /** Promise 11: "a slot is being tried by the newest record" */
    private static void aSlotIsBeingTried() {
        TwoSlots x = Due.updated(6);
        Due.is("revoke(2) of slot 1", x.revoke(2), TwoSlots.STATE);
        Due.pokeRecord(x, 5, 0);
        Due.is("revoke(2) of slot 0", x.revoke(2), TwoSlots.STATE);
        Due.pokeRecord(x, 6, 0);
        Due.is("revoke(2) without a try", x.revoke(2), TwoSlots.STATE);
        Due.pokeRecord(x, 5, 255);
        Due.is("revoke(2) with none tried", x.revoke(2), 1);
        x = Due.updated(6);
        Due.pokeRecord(x, 15, 91);
        Due.is("revoke(2): it is no record, the newest tries none", x.revoke(2), 1);
    }

    /** Promise 11: "or what runs has that key" */
    private static void theKeyOfWhatRuns() {
        for (int k = 0; k < 4; k++) {
            TwoSlots x = Due.booted(5);
            Due.is("confirm()", Due.settle(x, 6, 1, k, 0), 6);
            for (int other = 0; other < 4; other++) {
                // A look at the other slot must not tell which key runs.
                x.slot(0, 4);
                Due.is("revoke(" + other + ") when key " + k + " runs", x.revoke(other), other == k ? TwoSlots.STATE : 1);
            }
        }
    }

    /** Promise 11, of Terms 3: "and its KEY is not REVOKED (by the newest record)" */
    private static void theKeyOfTheOtherSlot() {
        TwoSlots x = Due.confirmed(5);
        Due.is("slot(0, 0)", x.slot(0, 0), 1);
        Due.is("revoke(0)", x.revoke(0), 1);
        Due.is("slot(0, 0)", x.slot(0, 0), 0);
        Due.is("slot(0, 1)", x.slot(0, 1), 0);
        x.rot(34, 0, 1);
        Due.is("boot()", x.boot(), TwoSlots.NONE);
    }

    /** Promise 11, of Terms 2: "and offer(), finish(), confirm(), revoke() are STATE" */
    private static void withoutARecord() {
        TwoSlots x = Due.booted(5);
        Due.turnRecords(x);
        Due.is("revoke(1)", x.revoke(1), TwoSlots.STATE);
        Due.is("count(0)", x.count(0), 0);
        Due.turnRecords(x);
        Due.is("revoke(1) with the record again", x.revoke(1), 1);
    }

    /** Promise 11, of Terms 2: "if there is none, the other sector is erased, and it is that one's first line" */
    private static void theRecordInAFullSector() {
        TwoSlots x = Due.confirmed(6);
        Due.is("record(7)", x.record(7), 3);
        x.rot(1, 0, 255);
        Due.is("revoke(0)", x.revoke(0), 1);
        Due.is("record(6)", x.record(6), 1);
        Due.is("record(7)", x.record(7), 0);
        Due.is("the record", Due.bytes(x, 1, 0, 16), "00000005" + "01" + "ff" + "00" + "01" + "00000006" + "0000005a");
        Due.is("the rest of its sector", Due.bytes(x, 1, 16, 48), "ff".repeat(48));
    }

    /** Promise 11, of Terms 5: "are told by calls that do nothing else" */
    private static void refusedOnesChangeNothing() {
        TwoSlots x = Due.booted(5);
        x.make(6, 1, 0, 0);
        x.pack(0);
        String before = Due.look(x);
        x.revoke(0);
        x.revoke(4);
        Due.is("nothing is other", Due.look(x), before);
    }

    /** Promise 11, of Terms 5: "of several the first one in the order in which a call names them", and "1. DOWN, UNKNOWN (the key), STATE" */
    private static void downComesFirst() {
        TwoSlots x = Due.booted(5);
        Due.down(x);
        Due.is("revoke(4): DOWN, and no such key", x.revoke(4), TwoSlots.DOWN);
        Due.is("revoke(1): DOWN, and nothing runs", x.revoke(1), TwoSlots.DOWN);
    }

    /** Promise 11, of Terms 5: "of several the first one in the order in which a call names them" */
    private static void unknownComesBeforeState() {
        TwoSlots x = new TwoSlots(5, 0, 77L);
        Due.is("revoke(4): no such key, and nothing runs", x.revoke(4), TwoSlots.UNKNOWN);
        Due.is("revoke(-1): no such key, and nothing runs", x.revoke(-1), TwoSlots.UNKNOWN);
    }

    /** Promise 11: "STATE (nothing runs, it is on trial, something is offered": also of a key that was revoked already. */
    private static void stateComesBeforeZero() {
        TwoSlots x = Due.booted(5);
        x.revoke(1);
        Due.offer(x, 6, 1, 0, 0);
        Due.is("revoke(1) with an offer", x.revoke(1), TwoSlots.STATE);
    }

    /** Promise 11: "or what runs has that key), LOST." */
    private static void lostAtTheRecord() {
        for (int tear = 0; tear < 16; tear++) {
            TwoSlots x = Due.booted(5);
            x.cut(0, tear);
            Due.is("revoke(1) with a tear of " + tear, x.revoke(1), TwoSlots.LOST);
            Due.is("record(4)", x.record(4), 0);
            Due.is("count(2)", x.count(2), 0);
            x.start();
            x.boot();
            Due.is("revoke(1) once more", x.revoke(1), 1);
            Due.is("record(4)", x.record(4), 2);
            Due.is("record(7)", x.record(7), tear == 0 ? 1 : 2);
        }
    }

    /** Promise 11: "it was already (no record)": so power does not go. */
    private static void whatWasAlreadyWritesNothing() {
        TwoSlots x = Due.booted(5);
        x.revoke(1);
        x.cut(0, 0);
        Due.is("revoke(1)", x.revoke(1), 0);
        Due.is("revoke(2)", x.revoke(2), TwoSlots.LOST);
    }

    /** Promise 11, of Terms 2: "(What is the newest is told by what lies in the flash, also behind this.)" */
    private static void aRecordThatIsNotWhole() {
        TwoSlots x = Due.booted(5);
        Due.pokeSerial(x, 0xFFFFFF);
        Due.is("revoke(1)", x.revoke(1), 1);
        Due.is("record(4)", x.record(4), 0);
        Due.is("revoke(1): it is not revoked", x.revoke(1), 1);
        Due.is("offer() of key 1", Due.offer(x, 6, 1, 1, 0), 1);
    }
}
