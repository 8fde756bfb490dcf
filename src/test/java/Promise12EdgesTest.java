/** The boundary cases of promise 12: cut, and what is left of a write at which power goes. */
public final class Promise12EdgesTest {
    public static void main(String[] args) {
        writesAhead();
        tears();
        aTearIsLookedAtWithNoneToo();
        theNextWrite();
        theNthWrite();
        theThousandthWrite();
        onlyWritesCount();
        itStays();
        aSecondCutTakesTheFirstOnesPlace();
        refusedOnesLeaveWhatWasSet();
        tearsOfALine();
        tearsOfASector();
        aTearThatWouldChangeNothing();
        whatRunsIsGone();
        whatIsOfferedIsGone();
        theWatchdogIsGone();
        theTapeIsGone();
        theMakerIsNotGone();
        downComesFirst();
        Due.end();
    }

    /** Promise 12: "OUTSIDE (n -1 .. 1000" */
    private static void writesAhead() {
        TwoSlots x = Due.booted(5);
        int[] inside = {-1, 0, 1, 999, 1000};
        for (int n : inside) {
            Due.is("cut(" + n + ", 0)", x.cut(n, 0), 1);
        }
        int[] outside = {-2, 1001, Integer.MAX_VALUE, Integer.MIN_VALUE};
        for (int n : outside) {
            Due.is("cut(" + n + ", 0)", x.cut(n, 0), TwoSlots.OUTSIDE);
        }
    }

    /** Promise 12: "with a tear 0 .. 63", and "OUTSIDE (n -1 .. 1000, tear)" */
    private static void tears() {
        TwoSlots x = Due.booted(5);
        Due.is("cut(5, 0)", x.cut(5, 0), 1);
        Due.is("cut(5, 63)", x.cut(5, 63), 1);
        int[] outside = {-1, 64, Integer.MAX_VALUE, Integer.MIN_VALUE};
        for (int tear : outside) {
            Due.is("cut(5, " + tear + ")", x.cut(5, tear), TwoSlots.OUTSIDE);
        }
    }

    /** Promise 12: "OUTSIDE (n -1 .. 1000, tear)": with NONE, too. */
    private static void aTearIsLookedAtWithNoneToo() {
        TwoSlots x = Due.booted(5);
        Due.is("cut(-1, 63)", x.cut(TwoSlots.NONE, 63), 1);
        Due.is("cut(-1, 64)", x.cut(TwoSlots.NONE, 64), TwoSlots.OUTSIDE);
        Due.is("cut(-1, -1)", x.cut(TwoSlots.NONE, -1), TwoSlots.OUTSIDE);
    }

    /** Promise 12: "(0 the next one)" */
    private static void theNextWrite() {
        TwoSlots x = Due.booted(5);
        x.cut(0, 0);
        Due.is("revoke(1)", x.revoke(1), TwoSlots.LOST);
        Due.is("count(0)", x.count(0), 1);
    }

    /** Promise 12: "Power goes at the n-th write from now on" */
    private static void theNthWrite() {
        for (int n = 0; n < 8; n++) {
            TwoSlots x = Due.booted(5);
            x.revoke(1);
            x.cut(n, 0);
            int calls = 0;
            while (calls < 20 && x.running() == 0) {
                Due.pokeRecord(x, 7, 0);
                x.revoke(1);
                calls++;
            }
            Due.is("count(0) with cut(" + n + ", 0)", x.count(0), 1 + n + 1);
        }
    }

    /** Promise 12: "OUTSIDE (n -1 .. 1000": so many writes are done before power goes. */
    private static void theThousandthWrite() {
        TwoSlots x = Due.booted(5);
        x.make(5, 30, 0, 0);
        x.cut(1000, 17);
        for (int offers = 0; offers < 7; offers++) {
            x.pack(TwoSlots.NONE);
            x.offer();
            Due.blocks(x, 0, offers < 6 ? 30 : 18);
        }
        Due.is("count(0)", x.count(0), 6 * 151 + 1 + 90);
        Due.is("running()", x.running(), 0);
        x.pack(18);
        Due.is("block(): its fourth write is the one", x.block(), TwoSlots.LOST);
        Due.is("count(0)", x.count(0), 1001);
        Due.is("octet(52, 32): one byte of its third line is done", x.octet(52, 32), 5 * 18 + 32);
        Due.is("octet(52, 33)", x.octet(52, 33), 255);
    }

    /** Promise 12: "Power goes at the n-th write": what writes nothing does not count. */
    private static void onlyWritesCount() {
        TwoSlots x = Due.booted(5);
        x.cut(1, 0);
        x.boot();
        x.tick(100);
        x.rot(60, 0, 1);
        x.octet(60, 0);
        x.make(5, 1, 0, 0);
        x.pack(0);
        Due.is("offer() of a block", x.offer(), TwoSlots.BAD);
        Due.is("revoke(0)", x.revoke(0), TwoSlots.STATE);
        Due.is("revoke(1): one write", x.revoke(1), 1);
        Due.is("revoke(1): none", x.revoke(1), 0);
        Due.is("revoke(2): the one", x.revoke(2), TwoSlots.LOST);
    }

    /** Promise 12: "NONE: it stays: 1." */
    private static void itStays() {
        TwoSlots x = Due.booted(5);
        Due.is("cut(0, 0)", x.cut(0, 0), 1);
        Due.is("cut(-1, 0)", x.cut(TwoSlots.NONE, 0), 1);
        Due.is("confirm()", Due.settle(x, 6, 30, 0, 0), 6);
        Due.is("running()", x.running(), 1);
    }

    /** Promise 12: "from now on" */
    private static void aSecondCutTakesTheFirstOnesPlace() {
        TwoSlots x = Due.booted(5);
        x.cut(0, 0);
        x.cut(2, 3);
        Due.is("revoke(1)", x.revoke(1), 1);
        x.cut(1, 5);
        Due.is("revoke(2)", x.revoke(2), 1);
        Due.is("revoke(3)", x.revoke(3), TwoSlots.LOST);
        Due.is("the tear of the last one", Due.bytes(x, 0, 48, 7), "0000000400" + "ffff");
    }

    /** Promise 12, of Terms 5: "are told by calls that do nothing else" */
    private static void refusedOnesLeaveWhatWasSet() {
        TwoSlots x = Due.booted(5);
        x.cut(0, 5);
        x.cut(1001, 9);
        x.cut(-2, 9);
        x.cut(TwoSlots.NONE, 64);
        x.cut(3, -1);
        Due.is("revoke(1)", x.revoke(1), TwoSlots.LOST);
        Due.is("the tear", Due.bytes(x, 0, 16, 7), "0000000200" + "ffff");
    }

    /** Promise 12, of Terms 1: "of it just so many bytes (0 .. 15 of a line" and "those of the tear that is told, modulo 16 or 64" */
    private static void tearsOfALine() {
        String line = "00000002" + "00" + "ff" + "00" + "02" + "00000005" + "0000005a";
        for (int tear = 0; tear < 64; tear++) {
            TwoSlots x = Due.booted(5);
            x.cut(0, tear);
            Due.is("revoke(1)", x.revoke(1), TwoSlots.LOST);
            int done = tear % 16;
            Due.is("the line with a tear of " + tear, Due.bytes(x, 0, 16, 16), line.substring(0, 2 * done) + "ff".repeat(16 - done));
            Due.is("the line behind it", Due.bytes(x, 0, 32, 16), "ff".repeat(16));
        }
    }

    /** Promise 12, of Terms 1: "0 .. 63 of a sector" and "from the first on, are done" */
    private static void tearsOfASector() {
        for (int tear = 0; tear < 64; tear++) {
            TwoSlots x = Due.booted(5);
            for (int i = 0; i < 64; i++) {
                x.rot(33, i, 255);
            }
            x.cut(0, tear);
            Due.is("offer()", Due.offer(x, 5, 1, 0, 0), TwoSlots.LOST);
            Due.is("the sector with a tear of " + tear, Due.bytes(x, 33, 0, 64), "ff".repeat(tear) + "00".repeat(64 - tear));
            Due.is("count(1)", x.count(1), 1);
        }
    }

    /** Promise 12, of Terms 1: "Then it is DOWN, the call answers LOST": also at a write that would have changed nothing more. */
    private static void aTearThatWouldChangeNothing() {
        TwoSlots x = Due.booted(5);
        x.cut(0, 63);
        Due.is("offer() to a header that is erased", Due.offer(x, 5, 1, 0, 0), TwoSlots.LOST);
        Due.is("running()", x.running(), TwoSlots.DOWN);
        Due.is("the header", Due.bytes(x, 33, 0, 64), "ff".repeat(64));
    }

    /** Promise 12, of Terms 1: "and what is in memory is gone: what runs" */
    private static void whatRunsIsGone() {
        TwoSlots x = Due.booted(5);
        Due.down(x);
        Due.is("running()", x.running(), TwoSlots.DOWN);
        x.start();
        Due.is("running() behind start()", x.running(), TwoSlots.NONE);
        Due.is("offer()", Due.offer(x, 6, 1, 0, 0), TwoSlots.STATE);
    }

    /** Promise 12, of Terms 1: "what is offered" */
    private static void whatIsOfferedIsGone() {
        TwoSlots x = Due.booted(5);
        Due.offer(x, 6, 2, 0, 0);
        x.cut(4, 0);
        Due.is("block()", Due.blocks(x, 0, 1), TwoSlots.LOST);
        Due.is("count(8)", x.count(8), 0);
        x.start();
        x.boot();
        x.pack(0);
        Due.is("block() behind start()", x.block(), TwoSlots.STATE);
        Due.is("finish()", x.finish(), TwoSlots.STATE);
        Due.is("revoke(1): nothing is offered", x.revoke(1), 1);
    }

    /** Promise 12, of Terms 1: "the watchdog" */
    private static void theWatchdogIsGone() {
        TwoSlots x = Due.onTrial(6);
        x.cut(0, 0);
        Due.is("confirm()", x.confirm(), TwoSlots.LOST);
        Due.is("watchdog()", x.watchdog(), TwoSlots.DOWN);
        x.start();
        Due.is("watchdog() behind start()", x.watchdog(), 0);
        Due.is("tick(100)", x.tick(100), 0);
        Due.is("confirm() behind start()", x.confirm(), TwoSlots.STATE);
    }

    /** Promise 12, of Terms 1: "the tape" */
    private static void theTapeIsGone() {
        TwoSlots x = Due.booted(5);
        x.make(6, 1, 0, 0);
        x.pack(TwoSlots.NONE);
        x.cut(0, 0);
        Due.is("revoke(1)", x.revoke(1), TwoSlots.LOST);
        Due.is("count(7)", x.count(7), 0);
        Due.is("alter(0, 0)", x.alter(0, 0), TwoSlots.UNKNOWN);
        x.start();
        x.boot();
        Due.is("offer()", x.offer(), TwoSlots.BAD);
    }

    /** Promise 12, of Terms 1: "what is in memory is gone: what runs, what is offered, the watchdog, the tape.": the maker is not among it. */
    private static void theMakerIsNotGone() {
        TwoSlots x = Due.booted(5);
        x.make(6, 2, 0, 9);
        x.cut(0, 0);
        x.revoke(1);
        x.start();
        Due.is("pack(1)", x.pack(1), 64);
        Due.is("alter(0, 0)", x.alter(0, 0), 14);
    }

    /** Promise 12, of Terms 5: "of several the first one in the order in which a call names them", and "it stays: 1. DOWN, OUTSIDE (n -1 .. 1000, tear)" */
    private static void downComesFirst() {
        TwoSlots x = Due.booted(5);
        Due.down(x);
        Due.is("cut(0, 0)", x.cut(0, 0), TwoSlots.DOWN);
        Due.is("cut(1001, 0): DOWN, and OUTSIDE", x.cut(1001, 0), TwoSlots.DOWN);
        Due.is("cut(0, 64): DOWN, and OUTSIDE", x.cut(0, 64), TwoSlots.DOWN);
        x.start();
        x.boot();
        Due.is("revoke(1): nothing was set", x.revoke(1), 1);
    }
}
