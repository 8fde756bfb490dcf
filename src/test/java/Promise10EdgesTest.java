/** The boundary cases of promise 10: tick. */
public final class Promise10EdgesTest {
    public static void main(String[] args) {
        soManyTicks();
        refusedOnesChangeNothing();
        theTwentiethTick();
        twentyAtOnce();
        ticksThatAreLeft();
        theTriesRunOut();
        moreTicksThanTries();
        nothingIsOnTrial();
        aWatchdogThatRunsNothing();
        withoutARecord();
        asManyWatchdogsAsTicksAllow();
        downComesFirst();
        lostAtTheFirstWatchdog();
        lostAtALaterWatchdog();
        Due.end();
    }

    /** Promise 10: "So many ticks (1 .. 100)" */
    private static void soManyTicks() {
        TwoSlots x = Due.booted(5);
        Due.is("tick(1)", x.tick(1), 0);
        Due.is("tick(100)", x.tick(100), 0);
        int[] outside = {0, 101, -1, Integer.MAX_VALUE, Integer.MIN_VALUE};
        for (int n : outside) {
            Due.is("tick(" + n + ")", x.tick(n), TwoSlots.OUTSIDE);
        }
    }

    /** Promise 10, of Terms 5: "are told by calls that do nothing else" */
    private static void refusedOnesChangeNothing() {
        TwoSlots x = Due.onTrial(6);
        x.tick(19);
        x.tick(0);
        x.tick(101);
        Due.is("watchdog()", x.watchdog(), 1);
        Due.is("count(5)", x.count(5), 0);
    }

    /** Promise 10, of Terms 4: "the WATCHDOG fires with the 20th tick from now on" */
    private static void theTwentiethTick() {
        TwoSlots x = Due.onTrial(6);
        for (int i = 1; i < 20; i++) {
            Due.is("tick " + i, x.tick(1), 0);
            Due.is("watchdog()", x.watchdog(), 20 - i);
        }
        Due.is("record(3)", x.record(3), 2);
        Due.is("tick 20", x.tick(1), 1);
        Due.is("record(3)", x.record(3), 1);
        Due.is("count(5)", x.count(5), 1);
    }

    /** Promise 10: "how often the watchdog fired" */
    private static void twentyAtOnce() {
        TwoSlots x = Due.onTrial(6);
        Due.is("tick(19)", x.tick(19), 0);
        x = Due.onTrial(6);
        Due.is("tick(20)", x.tick(20), 1);
        Due.is("watchdog()", x.watchdog(), 20);
        Due.is("running()", x.running(), 1);
    }

    /** Promise 10, of Terms 4: "When the WATCHDOG fires, it is as boot() (ticks that are left go on behind it)." */
    private static void ticksThatAreLeft() {
        int[][] ticks = {{21, 1, 19}, {39, 1, 1}, {40, 2, 20}, {41, 2, 19}, {59, 2, 1}, {60, 3, 0}};
        for (int[] t : ticks) {
            TwoSlots x = Due.onTrial(6);
            Due.is("tick(" + t[0] + ")", x.tick(t[0]), t[1]);
            Due.is("watchdog()", x.watchdog(), t[2]);
            Due.is("count(3)", x.count(3), 2 + t[1]);
            Due.is("count(5)", x.count(5), t[1]);
        }
    }

    /** Promise 10, of Terms 4: "with TRIES above 0" and "Then, if the ACTIVE slot is GOOD, it runs" */
    private static void theTriesRunOut() {
        TwoSlots x = Due.onTrial(6);
        Due.is("tick(59)", x.tick(59), 2);
        Due.is("running()", x.running(), 1);
        Due.is("tick(1)", x.tick(1), 1);
        Due.is("running()", x.running(), 0);
        Due.is("record(2)", x.record(2), TwoSlots.NONE);
        Due.is("count(4)", x.count(4), 3);
    }

    /** Promise 10: "So many ticks (1 .. 100): how often the watchdog fired." */
    private static void moreTicksThanTries() {
        TwoSlots x = Due.onTrial(6);
        Due.is("tick(100)", x.tick(100), 3);
        Due.is("running()", x.running(), 0);
        Due.is("watchdog()", x.watchdog(), 0);
        Due.is("tick(100)", x.tick(100), 0);
        Due.is("count(5)", x.count(5), 3);
    }

    /** Promise 10: "how often the watchdog fired": 0 when nothing is on trial. */
    private static void nothingIsOnTrial() {
        TwoSlots x = new TwoSlots(5, 0, 77L);
        Due.is("tick(100) when nothing runs", x.tick(100), 0);
        x = Due.updated(6);
        Due.is("tick(100) before boot()", x.tick(100), 0);
        Due.is("count(3)", x.count(3), 1);
        x = Due.confirmed(6);
        Due.is("tick(100) behind confirm()", x.tick(100), 0);
        Due.is("count(5)", x.count(5), 0);
    }

    /** Promise 10, of Terms 4: "When the WATCHDOG fires, it is as boot()": it may run nothing. */
    private static void aWatchdogThatRunsNothing() {
        TwoSlots x = Due.onTrial(6);
        x.rot(3, 0, 1);
        x.rot(34, 0, 1);
        Due.is("tick(100)", x.tick(100), 1);
        Due.is("running()", x.running(), TwoSlots.NONE);
        Due.is("watchdog()", x.watchdog(), 0);
    }

    /** Promise 10, of Terms 2: "BOOT runs nothing" */
    private static void withoutARecord() {
        TwoSlots x = Due.onTrial(6);
        Due.turnRecords(x);
        Due.is("tick(19)", x.tick(19), 0);
        Due.is("running()", x.running(), 1);
        Due.is("tick(81)", x.tick(81), 1);
        Due.is("running()", x.running(), TwoSlots.NONE);
        Due.is("count(3)", x.count(3), 3);
    }

    /** Promise 10, of Terms 2: "(What is the newest is told by what lies in the flash, also behind this.)" */
    private static void asManyWatchdogsAsTicksAllow() {
        TwoSlots x = Due.updated(6);
        Due.pokeSerial(x, 0xFFFFFF);
        x.boot();
        Due.is("tick(100): what is appended is not whole, the tries stay", x.tick(100), 5);
        Due.is("watchdog()", x.watchdog(), 20);
        Due.is("record(3)", x.record(3), 3);
    }

    /** Promise 10, of Terms 5: "of several the first one in the order in which a call names them" */
    private static void downComesFirst() {
        TwoSlots x = Due.booted(5);
        Due.down(x);
        Due.is("tick(1)", x.tick(1), TwoSlots.DOWN);
        Due.is("tick(0): DOWN, and OUTSIDE", x.tick(0), TwoSlots.DOWN);
        Due.is("tick(101): DOWN, and OUTSIDE", x.tick(101), TwoSlots.DOWN);
    }

    /** Promise 10: "DOWN, OUTSIDE, LOST." */
    private static void lostAtTheFirstWatchdog() {
        TwoSlots x = Due.onTrial(6);
        x.cut(0, 15);
        Due.is("tick(19): no write", x.tick(19), 0);
        Due.is("tick(1)", x.tick(1), TwoSlots.LOST);
        Due.is("watchdog()", x.watchdog(), TwoSlots.DOWN);
        Due.is("record(3)", x.record(3), 2);
        x.start();
        Due.is("watchdog()", x.watchdog(), 0);
        Due.is("tick(100)", x.tick(100), 0);
    }

    /** Promise 10: "DOWN, OUTSIDE, LOST." */
    private static void lostAtALaterWatchdog() {
        TwoSlots x = Due.onTrial(6);
        x.cut(1, 0);
        Due.is("tick(100)", x.tick(100), TwoSlots.LOST);
        Due.is("record(3): the first one was as boot()", x.record(3), 1);
        Due.is("count(4)", x.count(4), 2);
        x.start();
        Due.is("running()", x.running(), TwoSlots.NONE);
        Due.is("boot()", x.boot(), 1);
        Due.is("record(3)", x.record(3), 0);
    }
}
