/** The boundary cases of promise 17: watchdog. */
public final class Promise17EdgesTest {
    public static void main(String[] args) {
        fromTwentyToOne();
        nothingIsOnTrial();
        itBeginsAnew();
        whileDown();
        Due.end();
    }

    /** Promise 17: "Ticks till the watchdog fires" */
    private static void fromTwentyToOne() {
        TwoSlots x = Due.onTrial(6);
        Due.is("watchdog()", x.watchdog(), 20);
        x.tick(1);
        Due.is("watchdog() behind a tick", x.watchdog(), 19);
        x.tick(18);
        Due.is("watchdog() before the last tick", x.watchdog(), 1);
        x.tick(1);
        Due.is("watchdog() when it has fired", x.watchdog(), 20);
    }

    /** Promise 17: "0 when nothing is on trial" */
    private static void nothingIsOnTrial() {
        Due.is("watchdog() of a new object", new TwoSlots(5, 0, 77L).watchdog(), 0);
        Due.is("watchdog() of what is active", Due.booted(5).watchdog(), 0);
        Due.is("watchdog() before boot()", Due.updated(6).watchdog(), 0);
        Due.is("watchdog() behind confirm()", Due.confirmed(6).watchdog(), 0);
        TwoSlots x = Due.onTrial(6);
        x.tick(60);
        Due.is("watchdog() when no try is left", x.watchdog(), 0);
    }

    /** Promise 17, of Terms 4: "the WATCHDOG fires with the 20th tick from now on" */
    private static void itBeginsAnew() {
        TwoSlots x = Due.onTrial(6);
        x.tick(19);
        x.boot();
        Due.is("watchdog() behind boot()", x.watchdog(), 20);
        x.tick(25);
        Due.is("watchdog() behind 25 ticks", x.watchdog(), 15);
    }

    /** Promise 17: "0 when nothing is on trial. DOWN." */
    private static void whileDown() {
        TwoSlots x = Due.onTrial(6);
        x.cut(0, 0);
        x.confirm();
        Due.is("watchdog()", x.watchdog(), TwoSlots.DOWN);
        x.start();
        Due.is("watchdog() behind start()", x.watchdog(), 0);
    }
}
