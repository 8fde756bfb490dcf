/** The boundary cases of promise 8: boot. */
public final class Promise08EdgesTest {
    public static void main(String[] args) {
        triesAboveZero();
        oneTryLess();
        theTriedOneIsNotGood();
        theTriedOneIsBelowTheCounter();
        theTriedOnesKeyIsRevoked();
        theActiveOneMayBeTried();
        triesAloneAreNoTrial();
        theActiveOneRunsWithoutARecord();
        theOtherOneBecomesActive();
        theOtherOneMustBeGood();
        twoRecordsInOneBoot();
        twoRecordsOverTheEndOfASector();
        nothingIsGood();
        nothingIsGoodAndOneIsTried();
        whatRanRunsNoMore();
        withoutARecord();
        whatWasOfferedIsGone();
        theTapeStays();
        theTwentyTicksBeginAnew();
        whileDown();
        lostAtTheTrial();
        lostAtTheFirstOfTwoRecords();
        lostAtTheSecondOfTwoRecords();
        lostAtTheLogsErase();
        nothingIsWrittenSoNothingIsLost();
        aRecordThatIsNotWhole();
        Due.end();
    }

    /** Promise 8, of Terms 4: "if it is TRYING a slot that is GOOD, with TRIES above 0" */
    private static void triesAboveZero() {
        TwoSlots x = Due.updated(6);
        Due.pokeRecord(x, 6, 1);
        Due.is("boot() with one try", x.boot(), 1);
        Due.is("watchdog()", x.watchdog(), 20);
        Due.is("record(3)", x.record(3), 0);
        Due.is("record(2): it is tried still", x.record(2), 1);
        x = Due.updated(6);
        Due.pokeRecord(x, 6, 0);
        Due.is("boot() with no try", x.boot(), 0);
        Due.is("watchdog()", x.watchdog(), 0);
        Due.is("record(2)", x.record(2), TwoSlots.NONE);
        Due.is("count(4)", x.count(4), 0);
    }

    /** Promise 8, of Terms 4: "a record with TRIES one less is appended; that slot runs, on TRIAL" */
    private static void oneTryLess() {
        TwoSlots x = Due.updated(6);
        for (int tries = 2; tries >= 0; tries--) {
            Due.is("boot()", x.boot(), 1);
            Due.is("running()", x.running(), 1);
            Due.is("record(3)", x.record(3), tries);
            Due.is("record(1): it is not active", x.record(1), 0);
            Due.is("record(5)", x.record(5), 5);
        }
        Due.is("boot() for the fourth time", x.boot(), 0);
        Due.is("count(3)", x.count(3), 5);
        Due.is("count(4)", x.count(4), 3);
    }

    /** Promise 8, of Terms 4: "Else, if it is TRYING one: a record that is trying none (TRIES 0) is appended." */
    private static void theTriedOneIsNotGood() {
        TwoSlots x = Due.updated(6);
        x.rot(34, 63, 1);
        Due.is("boot()", x.boot(), 0);
        Due.is("the record", Due.bytes(x, 0, 32, 16), "00000003" + "00" + "ff" + "00" + "00" + "00000005" + "0000005a");
        Due.is("count(2)", x.count(2), 2);
        x.rot(34, 63, 1);
        Due.is("boot() once it is good: it is tried no more", x.boot(), 0);
        Due.is("count(2)", x.count(2), 2);
    }

    /** Promise 8, of Terms 3: "its VERSION (without sign) is not below the COUNTER" */
    private static void theTriedOneIsBelowTheCounter() {
        TwoSlots x = Due.updated(6);
        Due.pokeRecord(x, 11, 6);
        Due.is("boot() with its version as counter", x.boot(), 1);
        x = Due.updated(6);
        Due.pokeRecord(x, 11, 7);
        Due.is("boot() with a counter above it", x.boot(), TwoSlots.NONE);
        Due.is("record(2)", x.record(2), TwoSlots.NONE);
    }

    /** Promise 8, of Terms 3: "its KEY is not REVOKED (by the newest record)" */
    private static void theTriedOnesKeyIsRevoked() {
        TwoSlots x = Due.updated(6);
        Due.pokeRecord(x, 7, 2);
        Due.is("boot()", x.boot(), 0);
        Due.is("record(2)", x.record(2), TwoSlots.NONE);
        Due.is("record(4)", x.record(4), 2);
    }

    /** Promise 8, of Terms 4: "if it is TRYING a slot": whichever it is. */
    private static void theActiveOneMayBeTried() {
        TwoSlots x = Due.booted(5);
        Due.pokeRecord(x, 5, 0);
        Due.pokeRecord(x, 6, 2);
        Due.is("boot()", x.boot(), 0);
        Due.is("watchdog()", x.watchdog(), 20);
        Due.is("record(3)", x.record(3), 1);
        Due.is("count(4)", x.count(4), 1);
    }

    /** Promise 8, of Terms 4: "Then, if the ACTIVE slot is GOOD, it runs": TRIES alone are no trial. */
    private static void triesAloneAreNoTrial() {
        TwoSlots x = Due.booted(5);
        Due.pokeRecord(x, 6, 3);
        Due.is("boot() with tries, but trying none", x.boot(), 0);
        Due.is("watchdog()", x.watchdog(), 0);
        Due.is("count(2)", x.count(2), 0);
        Due.is("record(3)", x.record(3), 3);
    }

    /** Promise 8, of Terms 4: "Then, if the ACTIVE slot is GOOD, it runs" */
    private static void theActiveOneRunsWithoutARecord() {
        TwoSlots x = Due.booted(5);
        Due.is("boot()", x.boot(), 0);
        Due.is("count(0)", x.count(0), 0);
        x = Due.confirmed(5);
        Due.is("slot(0, 0): the other one is good, too", x.slot(0, 0), 1);
        int writes = x.count(0);
        Due.is("boot()", x.boot(), 1);
        Due.is("count(0)", x.count(0), writes);
    }

    /** Promise 8, of Terms 4: "if not, but the other one is: a record with that as ACTIVE is appended, and it runs." */
    private static void theOtherOneBecomesActive() {
        TwoSlots x = Due.confirmed(5);
        x.rot(34, 0, 1);
        Due.is("boot()", x.boot(), 0);
        Due.is("running()", x.running(), 0);
        Due.is("watchdog(): it is no trial", x.watchdog(), 0);
        Due.is("record(0)", x.record(0), 5);
        Due.is("record(1)", x.record(1), 0);
        Due.is("record(5)", x.record(5), 5);
        x.rot(34, 0, 1);
        Due.is("boot() once the first one is good again", x.boot(), 0);
        Due.is("record(0)", x.record(0), 5);
    }

    /** Promise 8, of Terms 4: "if not, but the other one is": one below the COUNTER is not. */
    private static void theOtherOneMustBeGood() {
        TwoSlots x = Due.confirmed(6);
        x.rot(34, 0, 1);
        Due.is("slot(0, 1): right", x.slot(0, 1), 1);
        Due.is("boot()", x.boot(), TwoSlots.NONE);
        Due.is("record(1)", x.record(1), 1);
    }

    /** Promise 8, of Terms 4: "Else, if it is TRYING one: a record that is trying none (TRIES 0) is appended. Then, if the ACTIVE" */
    private static void twoRecordsInOneBoot() {
        TwoSlots x = Due.updated(6);
        Due.pokeRecord(x, 6, 0);
        x.rot(3, 0, 1);
        Due.is("boot(): no try is left, but it is the only good one", x.boot(), 1);
        Due.is("watchdog(): it is no trial", x.watchdog(), 0);
        Due.is("the first record", Due.bytes(x, 0, 32, 16), "00000003" + "00" + "ff" + "00" + "00" + "00000005" + "0000005a");
        Due.is("the second record", Due.bytes(x, 0, 48, 16), "00000004" + "01" + "ff" + "00" + "00" + "00000005" + "0000005a");
        Due.is("count(2)", x.count(2), 3);
    }

    /** Promise 8, of Terms 2: "if there is none, the other sector is erased, and it is that one's first line" */
    private static void twoRecordsOverTheEndOfASector() {
        TwoSlots x = Due.updated(6);
        Due.pokeRecord(x, 6, 0);
        x.rot(3, 0, 1);
        x.rot(0, 63, 1);
        Due.is("boot()", x.boot(), 1);
        Due.is("record(6)", x.record(6), 1);
        Due.is("record(7)", x.record(7), 0);
        Due.is("record(0)", x.record(0), 4);
        Due.is("record(1)", x.record(1), 1);
    }

    /** Promise 8, of Terms 4: "Else nothing does.", and: "which slot runs; NONE: nothing." */
    private static void nothingIsGood() {
        TwoSlots x = Due.booted(5);
        x.rot(2, 63, 1);
        Due.is("boot()", x.boot(), TwoSlots.NONE);
        Due.is("running()", x.running(), TwoSlots.NONE);
        Due.is("count(0)", x.count(0), 0);
        Due.is("count(3)", x.count(3), 2);
    }

    /** Promise 8, of Terms 4: "Else nothing does." */
    private static void nothingIsGoodAndOneIsTried() {
        TwoSlots x = Due.updated(6);
        x.rot(2, 63, 1);
        x.rot(33, 63, 1);
        Due.is("boot()", x.boot(), TwoSlots.NONE);
        Due.is("count(2): the record that is trying none", x.count(2), 2);
        Due.is("record(2)", x.record(2), TwoSlots.NONE);
        Due.is("record(1)", x.record(1), 0);
    }

    /** Promise 8: "which slot runs; NONE: nothing.": also where one ran before. */
    private static void whatRanRunsNoMore() {
        TwoSlots x = Due.onTrial(6);
        x.rot(3, 0, 1);
        x.rot(34, 0, 1);
        Due.is("boot()", x.boot(), TwoSlots.NONE);
        Due.is("running()", x.running(), TwoSlots.NONE);
        Due.is("watchdog()", x.watchdog(), 0);
        Due.is("confirm()", x.confirm(), TwoSlots.STATE);
    }

    /** Promise 8, of Terms 2: "BOOT runs nothing" */
    private static void withoutARecord() {
        TwoSlots x = Due.booted(5);
        Due.turnRecords(x);
        Due.is("boot()", x.boot(), TwoSlots.NONE);
        Due.is("running()", x.running(), TwoSlots.NONE);
        Due.is("slot(0, 0): it is good", x.slot(0, 0), 1);
        Due.is("count(3)", x.count(3), 2);
        Due.is("count(0)", x.count(0), 0);
        Due.turnRecords(x);
        Due.is("boot() with the record again", x.boot(), 0);
    }

    /** Promise 8: "What was offered is gone." */
    private static void whatWasOfferedIsGone() {
        TwoSlots x = Due.booted(5);
        Due.offer(x, 6, 2, 0, 0);
        Due.blocks(x, 0, 1);
        Due.is("boot()", x.boot(), 0);
        Due.is("count(8)", x.count(8), 0);
        x.pack(1);
        Due.is("block()", x.block(), TwoSlots.STATE);
        x = Due.booted(5);
        Due.offer(x, 6, 1, 0, 0);
        Due.blocks(x, 0, 1);
        x.boot();
        Due.is("finish()", x.finish(), TwoSlots.STATE);
        Due.is("revoke(1): nothing is offered", x.revoke(1), 1);
    }

    /** Promise 8: "What was offered is gone.": and nothing else of what is in memory. */
    private static void theTapeStays() {
        TwoSlots x = Due.booted(5);
        x.make(6, 1, 0, 0);
        x.pack(TwoSlots.NONE);
        x.boot();
        Due.is("count(7)", x.count(7), 64);
        Due.is("offer()", x.offer(), 1);
    }

    /** Promise 8, of Terms 4: "the WATCHDOG fires with the 20th tick from now on" */
    private static void theTwentyTicksBeginAnew() {
        TwoSlots x = Due.onTrial(6);
        x.tick(19);
        Due.is("boot() before the last tick", x.boot(), 1);
        Due.is("watchdog()", x.watchdog(), 20);
        Due.is("tick(19)", x.tick(19), 0);
        Due.is("tick(1)", x.tick(1), 1);
    }

    /** Promise 8: "What was offered is gone. DOWN" */
    private static void whileDown() {
        TwoSlots x = Due.updated(6);
        Due.down(x);
        x.pack(0);
        String before = Due.look(x);
        Due.is("boot()", x.boot(), TwoSlots.DOWN);
        Due.is("nothing is other", Due.look(x), before);
        x.start();
        Due.is("running(): it was not booted", x.running(), TwoSlots.NONE);
    }

    /** Promise 8: "DOWN, LOST." */
    private static void lostAtTheTrial() {
        for (int tear = 0; tear < 16; tear++) {
            TwoSlots x = Due.updated(6);
            x.cut(0, tear);
            Due.is("boot() with a tear of " + tear, x.boot(), TwoSlots.LOST);
            Due.is("running()", x.running(), TwoSlots.DOWN);
            Due.is("record(3)", x.record(3), 3);
            Due.is("count(4)", x.count(4), 0);
            x.start();
            Due.is("boot() once more", x.boot(), 1);
            Due.is("record(3)", x.record(3), 2);
        }
    }

    /** Promise 8: "DOWN, LOST." */
    private static void lostAtTheFirstOfTwoRecords() {
        TwoSlots x = Due.updated(6);
        Due.pokeRecord(x, 6, 0);
        x.rot(3, 0, 1);
        x.cut(0, 15);
        Due.is("boot()", x.boot(), TwoSlots.LOST);
        Due.is("record(2)", x.record(2), 1);
        Due.is("count(0): no second write", x.count(0), 12);
    }

    /** Promise 8: "DOWN, LOST." */
    private static void lostAtTheSecondOfTwoRecords() {
        TwoSlots x = Due.updated(6);
        Due.pokeRecord(x, 6, 0);
        x.rot(3, 0, 1);
        x.cut(1, 15);
        Due.is("boot()", x.boot(), TwoSlots.LOST);
        Due.is("record(2)", x.record(2), TwoSlots.NONE);
        Due.is("record(1)", x.record(1), 0);
        x.start();
        Due.is("running()", x.running(), TwoSlots.NONE);
        Due.is("boot() once more", x.boot(), 1);
        Due.is("record(1)", x.record(1), 1);
    }

    /** Promise 8, of Terms 2: "(So what a torn ERASE leaves of an old one is none: its first byte is 255.)" */
    private static void lostAtTheLogsErase() {
        for (int n = 0; n < 2; n++) {
            TwoSlots x = Due.booted(5);
            x.revoke(2);
            x.revoke(3);
            Due.update(x, 6, 1, 1, 3);
            Due.is("record(7)", x.record(7), 3);
            x.cut(n, 1);
            Due.is("boot()", x.boot(), TwoSlots.LOST);
            Due.is("record(0)", x.record(0), 4);
            x.start();
            Due.is("boot() once more", x.boot(), 1);
            Due.is("record(0)", x.record(0), 5);
            Due.is("record(6)", x.record(6), 1);
            Due.is("record(7)", x.record(7), 0);
        }
    }

    /** Promise 8, of Terms 1: "POWER may be set to go at a write" */
    private static void nothingIsWrittenSoNothingIsLost() {
        TwoSlots x = Due.booted(5);
        x.cut(0, 0);
        Due.is("boot()", x.boot(), 0);
        Due.is("revoke(1): the first write", x.revoke(1), TwoSlots.LOST);
    }

    /** Promise 8, of Terms 2: "(What is the newest is told by what lies in the flash, also behind this.)" */
    private static void aRecordThatIsNotWhole() {
        TwoSlots x = Due.updated(6);
        Due.pokeSerial(x, 0xFFFFFF);
        for (int i = 0; i < 4; i++) {
            Due.is("boot(): the tries stay", x.boot(), 1);
            Due.is("record(3)", x.record(3), 3);
        }
        Due.pokeRecord(x, 6, 0);
        x.rot(3, 0, 1);
        Due.is("boot() without a try: the other one runs", x.boot(), 1);
        Due.is("record(1): the record with it as active is not whole", x.record(1), 0);
        Due.is("record(2)", x.record(2), 1);
        Due.is("what was appended is as the newest is", Due.bytes(x, 1, 0, 16), "01000000" + "01" + "01" + "00" + "00" + "00000005" + "0000005a");
    }
}
