/** Promises 8 to 10, 16 and 17: boot, confirm, tick, running, watchdog. */
public final class BootTest {
    public static void main(String[] args) {
        bootsTheActiveSlot();
        bootDropsWhatIsOffered();
        bootsOnTrial();
        triesRunOut();
        triedSlotIsNotGood();
        activeSlotIsNotGood();
        triedAndActiveAreNotGood();
        nothingIsGood();
        belowTheCounterNothingRuns();
        withoutARecord();
        confirms();
        confirmTakesTheVersionThatRuns();
        confirmKeepsAHigherCounter();
        confirmWantsATrial();
        ticks();
        ticksGoOnBehindTheWatchdog();
        tickWantsItsRange();
        Due.end();
    }

    private static TwoSlots updated(int version) {
        TwoSlots x = Due.booted(5);
        Due.is("finish()", Due.update(x, version, 1, 1, 3), 1);
        return x;
    }

    private static void bootsTheActiveSlot() {
        TwoSlots x = new TwoSlots(5, 0, 1L);
        Due.is("running() of a new object", x.running(), TwoSlots.NONE);
        Due.is("boot()", x.boot(), 0);
        Due.is("running()", x.running(), 0);
        Due.is("watchdog()", x.watchdog(), 0);
        Due.is("boot() again", x.boot(), 0);
        Due.is("count(0)", x.count(0), 0);
        Due.is("count(3)", x.count(3), 2);
        Due.is("count(4)", x.count(4), 0);
    }

    private static void bootDropsWhatIsOffered() {
        TwoSlots x = Due.booted(5);
        Due.offer(x, 5, 2, 0, 0);
        x.pack(0);
        Due.is("boot()", x.boot(), 0);
        Due.is("count(7): the tape stays", x.count(7), 64);
        Due.is("count(8)", x.count(8), 0);
        Due.is("block()", x.block(), TwoSlots.STATE);
        Due.is("finish()", x.finish(), TwoSlots.STATE);
    }

    private static void bootsOnTrial() {
        TwoSlots x = updated(6);
        Due.is("running() before boot()", x.running(), 0);
        Due.is("boot()", x.boot(), 1);
        Due.is("running()", x.running(), 1);
        Due.is("watchdog()", x.watchdog(), 20);
        Due.is("the record", Due.bytes(x, 0, 32, 16), "0000000300010200000000050000005a");
        Due.is("count(4)", x.count(4), 1);
    }

    private static void triesRunOut() {
        TwoSlots x = updated(6);
        for (int tries = 2; tries >= 0; tries--) {
            Due.is("boot()", x.boot(), 1);
            Due.is("record(3)", x.record(3), tries);
            Due.is("record(2)", x.record(2), 1);
        }
        Due.is("boot() without tries", x.boot(), 0);
        Due.is("record(2)", x.record(2), TwoSlots.NONE);
        Due.is("record(3)", x.record(3), 0);
        Due.is("record(1)", x.record(1), 0);
        Due.is("watchdog()", x.watchdog(), 0);
        Due.is("count(2)", x.count(2), 5);
        Due.is("count(3)", x.count(3), 5);
        Due.is("count(4)", x.count(4), 3);
        Due.is("boot() once more", x.boot(), 0);
        Due.is("count(2) stays", x.count(2), 5);
    }

    private static void triedSlotIsNotGood() {
        TwoSlots x = updated(6);
        x.rot(34, 0, 1);
        Due.is("boot()", x.boot(), 0);
        Due.is("record(2)", x.record(2), TwoSlots.NONE);
        Due.is("record(3)", x.record(3), 0);
        Due.is("record(0)", x.record(0), 3);
        x.rot(34, 0, 1);
        Due.is("boot() again: it is tried no more", x.boot(), 0);
    }

    private static void activeSlotIsNotGood() {
        TwoSlots x = Due.booted(5);
        Due.settle(x, 6, 1, 1, 0);
        Due.settle(x, 7, 1, 1, 0);
        Due.is("record(1)", x.record(1), 0);
        Due.settle(x, 7, 1, 2, 0);
        Due.is("record(1)", x.record(1), 1);
        x.rot(34, 5, 2);
        int serial = x.record(0);
        Due.is("boot()", x.boot(), 0);
        Due.is("record(1)", x.record(1), 0);
        Due.is("record(0)", x.record(0), serial + 1);
        Due.is("watchdog()", x.watchdog(), 0);
        x.rot(34, 5, 2);
        Due.is("boot() again: the other one is active now", x.boot(), 0);
        Due.is("record(0)", x.record(0), serial + 1);
    }

    private static void triedAndActiveAreNotGood() {
        TwoSlots x = updated(6);
        x.boot();
        x.boot();
        x.boot();
        x.rot(3, 0, 1);
        Due.is("boot(): no tries are left, but the tried one is good", x.boot(), 1);
        Due.is("record(1)", x.record(1), 1);
        Due.is("record(2)", x.record(2), TwoSlots.NONE);
        Due.is("watchdog()", x.watchdog(), 0);
        Due.is("count(2): both records", x.count(2), 6);
        Due.is("count(4)", x.count(4), 3);
    }

    private static void nothingIsGood() {
        TwoSlots x = updated(6);
        x.rot(3, 0, 1);
        x.rot(34, 0, 1);
        Due.is("boot()", x.boot(), TwoSlots.NONE);
        Due.is("running()", x.running(), TwoSlots.NONE);
        Due.is("record(2)", x.record(2), TwoSlots.NONE);
        Due.is("record(1)", x.record(1), 0);
        Due.is("count(2)", x.count(2), 2);
    }

    private static void belowTheCounterNothingRuns() {
        TwoSlots x = Due.booted(5);
        Due.settle(x, 6, 1, 0, 0);
        x.rot(34, 0, 1);
        Due.is("boot(): slot 0 is below the counter", x.boot(), TwoSlots.NONE);
        Due.is("slot(0, 1)", x.slot(0, 1), 1);
        Due.is("slot(0, 0)", x.slot(0, 0), 0);

        x = new TwoSlots(-2, 0, 77L);
        x.boot();
        Due.is("confirm()", Due.settle(x, -1, 1, 0, 0), -1);
        x.rot(34, 0, 1);
        Due.is("boot(): without sign", x.boot(), TwoSlots.NONE);
    }

    private static void withoutARecord() {
        TwoSlots x = Due.booted(5);
        x.rot(0, 0, 1);
        Due.is("boot() without a record", x.boot(), TwoSlots.NONE);
        Due.is("running()", x.running(), TwoSlots.NONE);
        Due.is("count(3)", x.count(3), 2);
        x = updated(6);
        x.boot();
        for (int line = 0; line < 3; line++) {
            x.rot(0, 16 * line + 15, 8);
        }
        Due.is("confirm() without a record", x.confirm(), TwoSlots.STATE);
        Due.is("watchdog()", x.watchdog(), 20);
        Due.is("tick(20) without a record", x.tick(20), 1);
        Due.is("running()", x.running(), TwoSlots.NONE);
    }

    private static void confirms() {
        TwoSlots x = updated(6);
        x.boot();
        x.tick(19);
        Due.is("confirm()", x.confirm(), 6);
        Due.is("the record", Due.bytes(x, 0, 48, 16), "0000000401ff0000000000060000005a");
        Due.is("running()", x.running(), 1);
        Due.is("watchdog()", x.watchdog(), 0);
        Due.is("tick(100)", x.tick(100), 0);
        Due.is("confirm() once more", x.confirm(), TwoSlots.STATE);
        Due.is("boot()", x.boot(), 1);
        Due.is("count(4)", x.count(4), 1);
        x = updated(Integer.MIN_VALUE);
        x.boot();
        Due.is("confirm(): without sign", x.confirm(), Integer.MIN_VALUE);
        x = updated(-100);
        x.boot();
        Due.is("confirm(): a counter may be the same number", x.confirm(), -100);
        Due.is("running()", x.running(), 1);
    }

    private static void confirmTakesTheVersionThatRuns() {
        TwoSlots x = updated(6);
        x.boot();
        x.make(50, 1, 0, 0);
        x.pack(TwoSlots.NONE);
        x.slot(0, 2);
        Due.is("confirm() with another header on the tape", x.confirm(), 6);
    }

    private static void confirmKeepsAHigherCounter() {
        TwoSlots x = updated(6);
        x.boot();
        x.rot(0, 32 + 8, 128);
        Due.is("record(5)", x.record(5), 0x80000005);
        Due.is("confirm()", x.confirm(), 0x80000005);
        Due.is("record(5)", x.record(5), 0x80000005);
        Due.is("record(1)", x.record(1), 1);
    }

    private static void confirmWantsATrial() {
        TwoSlots x = new TwoSlots(5, 0, 77L);
        Due.is("confirm() when nothing runs", x.confirm(), TwoSlots.STATE);
        x.boot();
        Due.is("confirm() of what runs for good", x.confirm(), TwoSlots.STATE);
        Due.is("finish()", Due.update(x, 6, 1, 0, 0), 1);
        Due.is("confirm() before boot()", x.confirm(), TwoSlots.STATE);
        Due.is("count(2)", x.count(2), 1);
    }

    private static void ticks() {
        TwoSlots x = Due.booted(5);
        Due.is("tick(100) when nothing is on trial", x.tick(100), 0);
        Due.update(x, 6, 1, 0, 0);
        x.boot();
        Due.is("tick(1)", x.tick(1), 0);
        Due.is("watchdog()", x.watchdog(), 19);
        Due.is("tick(18)", x.tick(18), 0);
        Due.is("watchdog()", x.watchdog(), 1);
        Due.is("tick(1): the 20th", x.tick(1), 1);
        Due.is("watchdog()", x.watchdog(), 20);
        Due.is("running()", x.running(), 1);
        Due.is("record(3)", x.record(3), 1);
        Due.is("count(3)", x.count(3), 3);
        Due.is("count(4)", x.count(4), 2);
        Due.is("count(5)", x.count(5), 1);
        x.tick(7);
        Due.is("boot() on trial", x.boot(), 1);
        Due.is("watchdog(): from now on", x.watchdog(), 20);
        Due.is("count(5)", x.count(5), 1);
    }

    private static void ticksGoOnBehindTheWatchdog() {
        TwoSlots x = updated(6);
        x.boot();
        Due.is("tick(45)", x.tick(45), 2);
        Due.is("watchdog()", x.watchdog(), 15);
        Due.is("record(3)", x.record(3), 0);
        Due.is("tick(100)", x.tick(100), 1);
        Due.is("running()", x.running(), 0);
        Due.is("record(2)", x.record(2), TwoSlots.NONE);
        Due.is("count(5)", x.count(5), 3);
        x = updated(6);
        x.boot();
        Due.is("tick(100) at once", x.tick(100), 3);
        Due.is("running()", x.running(), 0);
        Due.is("watchdog()", x.watchdog(), 0);
    }

    private static void tickWantsItsRange() {
        TwoSlots x = updated(6);
        x.boot();
        int[] outside = {0, -1, 101, Integer.MAX_VALUE, Integer.MIN_VALUE};
        for (int n : outside) {
            Due.is("tick(" + n + ")", x.tick(n), TwoSlots.OUTSIDE);
        }
        Due.is("watchdog()", x.watchdog(), 20);
    }
}
