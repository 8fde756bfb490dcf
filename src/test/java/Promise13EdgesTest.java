/** The boundary cases of promise 13: start. */
public final class Promise13EdgesTest {
    public static void main(String[] args) {
        itIsNotDown();
        refusedOnesChangeNothing();
        itIsStartedOnce();
        powerStays();
        powerMayGoAgain();
        nothingRuns();
        whatLiesInTheFlashStays();
        Due.end();
    }

    /** Promise 13: "STATE (it is not DOWN)" */
    private static void itIsNotDown() {
        TwoSlots x = new TwoSlots(5, 0, 77L);
        Due.is("start() of a new object", x.start(), TwoSlots.STATE);
        x = Due.booted(5);
        Due.is("start() of what runs", x.start(), TwoSlots.STATE);
        x.cut(0, 0);
        Due.is("start() before power goes", x.start(), TwoSlots.STATE);
    }

    /** Promise 13, of Terms 5: "are told by calls that do nothing else" */
    private static void refusedOnesChangeNothing() {
        TwoSlots x = Due.onTrial(6);
        x.tick(5);
        x.cut(0, 0);
        String before = Due.look(x);
        Due.is("start()", x.start(), TwoSlots.STATE);
        Due.is("nothing is other", Due.look(x), before);
        Due.is("confirm(): power is still to go", x.confirm(), TwoSlots.LOST);
    }

    /** Promise 13: "Power is there again" */
    private static void itIsStartedOnce() {
        TwoSlots x = Due.booted(5);
        Due.down(x);
        Due.is("start()", x.start(), 1);
        Due.is("start() again", x.start(), TwoSlots.STATE);
        Due.is("boot()", x.boot(), 0);
    }

    /** Promise 13: "Power is there again, and stays" */
    private static void powerStays() {
        TwoSlots x = Due.booted(5);
        Due.down(x);
        x.start();
        x.boot();
        Due.is("confirm() of a large update", Due.settle(x, 6, 30, 0, 0), 6);
        Due.is("confirm() of another one", Due.settle(x, 7, 30, 0, 0), 7);
        Due.is("running()", x.running(), 0);
    }

    /** Promise 13: "and stays": until it is cut again. */
    private static void powerMayGoAgain() {
        TwoSlots x = Due.booted(5);
        for (int i = 0; i < 3; i++) {
            Due.down(x);
            Due.is("start()", x.start(), 1);
            Due.is("boot()", x.boot(), 0);
        }
        Due.is("count(0)", x.count(0), 3);
    }

    /** Promise 13: "nothing runs: 1." */
    private static void nothingRuns() {
        TwoSlots x = Due.onTrial(6);
        x.cut(0, 0);
        x.confirm();
        Due.is("start()", x.start(), 1);
        Due.is("running()", x.running(), TwoSlots.NONE);
        Due.is("watchdog()", x.watchdog(), 0);
        Due.is("count(3): it is no boot", x.count(3), 2);
    }

    /** Promise 13: "Power is there again, and stays; nothing runs": no write is done. */
    private static void whatLiesInTheFlashStays() {
        TwoSlots x = Due.updated(6);
        Due.down(x);
        int writes = x.count(0);
        x.start();
        Due.is("count(0)", x.count(0), writes);
        Due.is("record(0)", x.record(0), 2);
        Due.is("record(3)", x.record(3), 3);
        Due.is("boot()", x.boot(), 1);
    }
}
