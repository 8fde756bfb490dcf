/** The boundary cases of promise 16: running. */
public final class Promise16EdgesTest {
    public static void main(String[] args) {
        nothingRuns();
        eitherSlotRuns();
        onTrialToo();
        whileDown();
        Due.end();
    }

    /** Promise 16: "Which slot runs; NONE." */
    private static void nothingRuns() {
        TwoSlots x = new TwoSlots(5, 0, 77L);
        Due.is("running() of a new object", x.running(), TwoSlots.NONE);
        x.rot(2, 0, 1);
        x.boot();
        Due.is("running() behind a boot that runs nothing", x.running(), TwoSlots.NONE);
    }

    /** Promise 16: "Which slot runs" */
    private static void eitherSlotRuns() {
        Due.is("running() of slot 0", Due.booted(5).running(), 0);
        Due.is("running() of slot 1", Due.confirmed(6).running(), 1);
        Due.is("running() behind finish(), before boot()", Due.updated(6).running(), 0);
    }

    /** Promise 16, of Terms 4: "that slot runs, on TRIAL" */
    private static void onTrialToo() {
        TwoSlots x = Due.onTrial(6);
        Due.is("running() on trial", x.running(), 1);
        x.tick(59);
        Due.is("running() before the last watchdog", x.running(), 1);
        x.tick(1);
        Due.is("running() behind it", x.running(), 0);
    }

    /** Promise 16: "Which slot runs; NONE. DOWN." */
    private static void whileDown() {
        TwoSlots x = Due.booted(5);
        Due.down(x);
        Due.is("running()", x.running(), TwoSlots.DOWN);
        x.start();
        Due.is("running() behind start()", x.running(), TwoSlots.NONE);
    }
}
