/** The boundary cases of promise 9: confirm. */
public final class Promise09EdgesTest {
    private static final int LEAST = Integer.MIN_VALUE;
    private static final int MOST = Integer.MAX_VALUE;

    public static void main(String[] args) {
        theCounterIfThatIsHigher();
        aCounterThatIsHigherStays();
        theVersionOfWhatRuns();
        theSameNumber();
        theRecord();
        theRecordInAFullSector();
        onTrialNoMore();
        nothingRuns();
        nothingIsOnTrial();
        beforeTheLastTick();
        withoutARecord();
        downComesFirst();
        refusedOnesChangeNothing();
        lostAtTheRecord();
        aRecordThatIsNotWhole();
        Due.end();
    }

    /** Promise 9, of Terms 4: "and its VERSION as COUNTER, if that is higher (without sign), is appended" */
    private static void theCounterIfThatIsHigher() {
        int[][] pairs = {{5, 5}, {5, 6}, {0, 0}, {0, 1}, {0, -1}, {MOST, LEAST}, {MOST, -1}, {LEAST, -1}, {-2, -1}, {-1, -1}};
        for (int[] p : pairs) {
            TwoSlots x = Due.booted(p[0]);
            Due.is("confirm() of " + p[1] + " behind " + p[0], Due.settle(x, p[1], 1, 0, 0), p[1]);
            Due.is("record(5)", x.record(5), p[1]);
            Due.is("record(1)", x.record(1), 1);
        }
    }

    /** Promise 9, of Terms 4: "if that is higher (without sign)": it is not, once rot has made the COUNTER higher. */
    private static void aCounterThatIsHigherStays() {
        int[][] rots = {{11, 7}, {8, 128}, {8, 255}};
        for (int[] r : rots) {
            TwoSlots x = Due.onTrial(6);
            Due.pokeRecord(x, r[0], r[1]);
            int counter = x.record(5);
            Due.is("confirm() with a counter of " + counter, x.confirm(), counter);
            Due.is("record(5)", x.record(5), counter);
            Due.is("record(1)", x.record(1), 1);
            Due.is("running()", x.running(), 1);
        }
        TwoSlots x = Due.onTrial(LEAST);
        for (int i = 8; i < 12; i++) {
            Due.pokeRecord(x, i, i == 8 ? 127 : 255);
        }
        Due.is("confirm() of the least version, the counter being the greatest int", x.confirm(), LEAST);
    }

    /** Promise 9, of Terms 4: "its VERSION as COUNTER": whatever was looked at or packed since it runs. */
    private static void theVersionOfWhatRuns() {
        TwoSlots x = Due.onTrial(6);
        x.slot(0, 2);
        Due.is("confirm() behind a look at the other slot", x.confirm(), 6);
        x = Due.onTrial(6);
        x.make(50, 1, 0, 0);
        x.pack(TwoSlots.NONE);
        Due.is("confirm() with another header on the tape", x.confirm(), 6);
    }

    /** Promise 9: "(A COUNTER may be the same number.)": as a refusal has. */
    private static void theSameNumber() {
        int[] versions = {TwoSlots.NONE, TwoSlots.DOWN, TwoSlots.UNKNOWN, TwoSlots.OUTSIDE, TwoSlots.STATE, TwoSlots.ROOM,
            TwoSlots.BAD, TwoSlots.LOST};
        for (int version : versions) {
            TwoSlots x = Due.onTrial(version);
            Due.is("confirm() of version " + version, x.confirm(), version);
            Due.is("running()", x.running(), 1);
            Due.is("watchdog()", x.watchdog(), 0);
            Due.is("record(5)", x.record(5), version);
        }
    }

    /** Promise 9, of Terms 4: "a record with it as ACTIVE, trying none, TRIES 0" */
    private static void theRecord() {
        TwoSlots x = Due.onTrial(6);
        Due.pokeRecord(x, 7, 0xF4);
        x.confirm();
        Due.is("the record", Due.bytes(x, 0, 48, 16), "00000004" + "01" + "ff" + "00" + "f4" + "00000006" + "0000005a");
        Due.is("count(2)", x.count(2), 3);
    }

    /** Promise 9, of Terms 2: "if there is none, the other sector is erased, and it is that one's first line" */
    private static void theRecordInAFullSector() {
        TwoSlots x = Due.onTrial(6);
        x.boot();
        Due.is("record(7)", x.record(7), 3);
        Due.is("confirm()", x.confirm(), 6);
        Due.is("record(6)", x.record(6), 1);
        Due.is("record(7)", x.record(7), 0);
        Due.is("record(1)", x.record(1), 1);
        Due.is("record(3)", x.record(3), 0);
    }

    /** Promise 9, of Terms 4: "it runs, on trial no more" */
    private static void onTrialNoMore() {
        TwoSlots x = Due.confirmed(6);
        Due.is("running()", x.running(), 1);
        Due.is("watchdog()", x.watchdog(), 0);
        Due.is("tick(100)", x.tick(100), 0);
        Due.is("confirm() once more", x.confirm(), TwoSlots.STATE);
        Due.is("offer()", Due.offer(x, 6, 1, 0, 0), 0);
        Due.is("boot()", x.boot(), 1);
        Due.is("count(4)", x.count(4), 1);
    }

    /** Promise 9: "STATE (nothing is on trial)": nothing runs. */
    private static void nothingRuns() {
        TwoSlots x = new TwoSlots(5, 0, 77L);
        Due.is("confirm() of a new object", x.confirm(), TwoSlots.STATE);
        x = Due.onTrial(6);
        x.rot(3, 0, 1);
        x.rot(34, 0, 1);
        x.boot();
        Due.is("confirm() behind a boot that runs nothing", x.confirm(), TwoSlots.STATE);
    }

    /** Promise 9: "STATE (nothing is on trial)": what runs is not. */
    private static void nothingIsOnTrial() {
        TwoSlots x = Due.booted(5);
        Due.is("confirm() of the active one", x.confirm(), TwoSlots.STATE);
        x = Due.updated(6);
        Due.is("confirm() before boot()", x.confirm(), TwoSlots.STATE);
        Due.is("count(2)", x.count(2), 1);
        x = Due.onTrial(6);
        Due.is("tick(60)", x.tick(60), 3);
        Due.is("confirm() when no try is left", x.confirm(), TwoSlots.STATE);
    }

    /** Promise 9: "What runs on trial is CONFIRMED" */
    private static void beforeTheLastTick() {
        TwoSlots x = Due.onTrial(6);
        x.tick(59);
        Due.is("watchdog()", x.watchdog(), 1);
        Due.is("record(3)", x.record(3), 0);
        Due.is("confirm()", x.confirm(), 6);
        Due.is("tick(1)", x.tick(1), 0);
        Due.is("running()", x.running(), 1);
    }

    /** Promise 9, of Terms 2: "and offer(), finish(), confirm(), revoke() are STATE" */
    private static void withoutARecord() {
        TwoSlots x = Due.onTrial(6);
        Due.turnRecords(x);
        Due.is("confirm()", x.confirm(), TwoSlots.STATE);
        Due.is("watchdog(): it is on trial still", x.watchdog(), 20);
        Due.turnRecords(x);
        Due.is("confirm() with the record again", x.confirm(), 6);
    }

    /** Promise 9, of Terms 5: "of several the first one in the order in which a call names them", and "the COUNTER then. DOWN, STATE (nothing is on trial)" */
    private static void downComesFirst() {
        TwoSlots x = Due.booted(5);
        Due.down(x);
        Due.is("confirm(): DOWN, and nothing is on trial", x.confirm(), TwoSlots.DOWN);
    }

    /** Promise 9, of Terms 5: "are told by calls that do nothing else" */
    private static void refusedOnesChangeNothing() {
        TwoSlots x = Due.updated(6);
        Due.offer(x, 6, 2, 1, 0);
        x.pack(0);
        String before = Due.look(x);
        Due.is("confirm() when nothing is on trial", x.confirm(), TwoSlots.STATE);
        Due.is("nothing is other", Due.look(x), before);
    }

    /** Promise 9: "STATE (nothing is on trial), LOST." */
    private static void lostAtTheRecord() {
        for (int tear = 0; tear < 16; tear++) {
            TwoSlots x = Due.onTrial(6);
            x.cut(0, tear);
            Due.is("confirm() with a tear of " + tear, x.confirm(), TwoSlots.LOST);
            Due.is("record(5)", x.record(5), 5);
            Due.is("record(1)", x.record(1), 0);
            x.start();
            Due.is("confirm() behind start()", x.confirm(), TwoSlots.STATE);
            Due.is("boot(): it is tried still", x.boot(), 1);
            Due.is("record(3)", x.record(3), 1);
        }
    }

    /** Promise 9, of Terms 2: "(What is the newest is told by what lies in the flash, also behind this.)", and "the COUNTER then" */
    private static void aRecordThatIsNotWhole() {
        TwoSlots x = Due.onTrial(6);
        Due.pokeSerial(x, 0xFFFFFF);
        Due.is("confirm(): the counter that the newest has then", x.confirm(), 5);
        Due.is("what was appended", Due.bytes(x, 0, 48, 16), "01000000" + "01" + "ff" + "00" + "00" + "00000006" + "0000005a");
        Due.is("record(1)", x.record(1), 0);
        Due.is("running()", x.running(), 1);
        Due.is("watchdog()", x.watchdog(), 0);
        Due.is("confirm() once more", x.confirm(), TwoSlots.STATE);
    }
}
