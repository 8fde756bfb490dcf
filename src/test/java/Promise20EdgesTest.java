/** The boundary cases of promise 20: count. */
public final class Promise20EdgesTest {
    public static void main(String[] args) {
        noSuchQuestion();
        worksWhileDown();
        theWriteAtWhichPowerWent();
        theEraseAtWhichPowerWent();
        recordsThatWereAppended();
        recordsThatAreNotWhole();
        bootsOfEveryKind();
        bootsOnTrial();
        watchdogs();
        updatesThatWereFinished();
        bytesOnTheTape();
        blocksAwaited();
        refusedCallsCountNothing();
        fiveHundredAndTwelveCalls();
        Due.end();
    }

    /** Promise 20: "8 blocks awaited. OUTSIDE." */
    private static void noSuchQuestion() {
        TwoSlots x = Due.booted(5);
        Due.is("count(0)", x.count(0), 0);
        Due.is("count(8)", x.count(8), 0);
        int[] outside = {-1, 9, Integer.MAX_VALUE, Integer.MIN_VALUE};
        for (int what : outside) {
            Due.is("count(" + what + ")", x.count(what), TwoSlots.OUTSIDE);
        }
    }

    /** Promise 20: "8 blocks awaited. OUTSIDE.": DOWN is not among its answers. */
    private static void worksWhileDown() {
        TwoSlots x = Due.booted(5);
        Due.down(x);
        Due.is("count(0)", x.count(0), 1);
        Due.is("count(3)", x.count(3), 1);
        Due.is("count(9)", x.count(9), TwoSlots.OUTSIDE);
    }

    /** Promise 20: "How many: what = 0 writes (the one at which power went, too)" */
    private static void theWriteAtWhichPowerWent() {
        for (int n = 0; n < 5; n++) {
            TwoSlots x = Due.booted(5);
            Due.offer(x, 6, 1, 0, 0);
            x.cut(n, 0);
            Due.is("block()", Due.blocks(x, 0, 1), TwoSlots.LOST);
            Due.is("count(0) with cut(" + n + ", 0)", x.count(0), 1 + n + 1);
            Due.is("count(1) with cut(" + n + ", 0)", x.count(1), 2);
        }
    }

    /** Promise 20: "1 of these erases": the one at which power went, too. */
    private static void theEraseAtWhichPowerWent() {
        TwoSlots x = Due.booted(5);
        x.cut(0, 0);
        Due.offer(x, 6, 1, 0, 0);
        Due.is("count(0)", x.count(0), 1);
        Due.is("count(1)", x.count(1), 1);
        x = Due.booted(5);
        x.cut(0, 0);
        x.revoke(1);
        Due.is("count(0) of a line", x.count(0), 1);
        Due.is("count(1) of a line", x.count(1), 0);
    }

    /** Promise 20: "2 records appended" */
    private static void recordsThatWereAppended() {
        TwoSlots x = Due.updated(6);
        Due.is("count(2) behind finish()", x.count(2), 1);
        x.boot();
        Due.is("count(2) behind boot()", x.count(2), 2);
        x.confirm();
        Due.is("count(2) behind confirm()", x.count(2), 3);
        x.revoke(0);
        Due.is("count(2) behind revoke()", x.count(2), 4);
        x.revoke(0);
        Due.is("count(2) behind a revoke() of what was revoked", x.count(2), 4);
        x.boot();
        Due.is("count(2) behind a boot() that appends none", x.count(2), 4);
    }

    /** Promise 20: "2 records appended": also where the newest stays the newest. */
    private static void recordsThatAreNotWhole() {
        TwoSlots x = Due.booted(5);
        Due.pokeSerial(x, 0xFFFFFF);
        x.revoke(1);
        x.revoke(1);
        Due.is("count(2)", x.count(2), 2);
    }

    /** Promise 20: "3 boots": those that run nothing and those of the watchdog, too. */
    private static void bootsOfEveryKind() {
        TwoSlots x = Due.onTrial(6);
        Due.is("count(3)", x.count(3), 2);
        x.tick(20);
        Due.is("count(3) behind a watchdog", x.count(3), 3);
        Due.turnRecords(x);
        x.boot();
        Due.is("count(3) behind a boot that runs nothing", x.count(3), 4);
    }

    /** Promise 20: "4 of these on trial" */
    private static void bootsOnTrial() {
        TwoSlots x = Due.onTrial(6);
        Due.is("count(4)", x.count(4), 1);
        x.tick(40);
        Due.is("count(4) behind two watchdogs", x.count(4), 3);
        x.tick(20);
        Due.is("count(4) when no try is left", x.count(4), 3);
        Due.is("count(3)", x.count(3), 5);
    }

    /** Promise 20: "5 watchdogs" */
    private static void watchdogs() {
        TwoSlots x = Due.onTrial(6);
        x.tick(19);
        Due.is("count(5)", x.count(5), 0);
        x.tick(1);
        Due.is("count(5) behind the 20th tick", x.count(5), 1);
        x.boot();
        Due.is("count(5) behind boot()", x.count(5), 1);
        x.tick(100);
        Due.is("count(5) behind 100 more", x.count(5), 2);
    }

    /** Promise 20: "6 updates finished" */
    private static void updatesThatWereFinished() {
        TwoSlots x = Due.booted(5);
        Due.offer(x, 6, 1, 1, 0);
        x.finish();
        Due.is("count(6) behind a finish() that was refused", x.count(6), 0);
        Due.blocks(x, 0, 1);
        x.rot(34, 0, 1);
        x.finish();
        Due.is("count(6) behind one that was BAD", x.count(6), 0);
        Due.update(x, 6, 1, 1, 0);
        Due.is("count(6) behind one", x.count(6), 1);
        Due.update(x, 6, 1, 1, 0);
        Due.is("count(6) behind another", x.count(6), 2);
        x.boot();
        x.confirm();
        Due.is("count(6) behind confirm()", x.count(6), 2);
    }

    /** Promise 20: "7 bytes on the tape" */
    private static void bytesOnTheTape() {
        TwoSlots x = Due.booted(5);
        Due.is("count(7)", x.count(7), 0);
        x.make(6, 1, 0, 0);
        Due.is("count(7) behind make()", x.count(7), 0);
        x.pack(0);
        Due.is("count(7) behind pack(0)", x.count(7), 64);
        x.pack(TwoSlots.NONE);
        Due.is("count(7) behind pack(-1)", x.count(7), 64);
        x.offer();
        Due.is("count(7) behind offer()", x.count(7), 0);
    }

    /** Promise 20: "8 blocks awaited" */
    private static void blocksAwaited() {
        TwoSlots x = Due.booted(5);
        Due.is("count(8)", x.count(8), 0);
        Due.offer(x, 6, 30, 0, 0);
        Due.is("count(8) behind offer()", x.count(8), 30);
        Due.blocks(x, 0, 29);
        Due.is("count(8) before the last one", x.count(8), 1);
        Due.blocks(x, 29, 30);
        Due.is("count(8) behind the last one", x.count(8), 0);
        x.finish();
        Due.is("count(8) behind finish()", x.count(8), 0);
        Due.offer(x, 6, 2, 0, 0);
        x.boot();
        Due.is("count(8) behind boot()", x.count(8), 0);
    }

    /** Promise 20, of Terms 5: "are told by calls that do nothing else" */
    private static void refusedCallsCountNothing() {
        TwoSlots x = Due.booted(5);
        Due.down(x);
        x.start();
        String before = Due.look(x);
        x.offer();
        x.block();
        x.finish();
        x.confirm();
        x.tick(0);
        x.revoke(1);
        x.cut(1001, 0);
        x.start();
        Due.is("nothing is other", Due.look(x), before);
    }

    /** Promise 20, of What it is: "An object is used for at most 512 calls after it has been made" */
    private static void fiveHundredAndTwelveCalls() {
        TwoSlots x = Due.booted(5);
        x.make(5, 30, 0, 0);
        int calls = 2;
        int writes = 0;
        for (int round = 0; round < 8; round++) {
            x.pack(TwoSlots.NONE);
            x.offer();
            Due.is("the last block of round " + round, Due.blocks(x, 0, 30), 0);
            calls += 62;
            writes += 151;
        }
        x.finish();
        x.boot();
        x.confirm();
        calls += 3;
        while (calls < 510) {
            x.tick(100);
            calls++;
        }
        Due.is("running(), call 511", x.running(), 1);
        Due.is("count(0), call 512", x.count(0), writes + 4 + 1 + 1 + 1);
    }
}
