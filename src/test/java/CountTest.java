/** Promise 20: count. */
public final class CountTest {
    public static void main(String[] args) {
        wantsItsRange();
        countsAnUpdate();
        countsWhatPowerTook();
        countsTapeAndBlocks();
        Due.end();
    }

    private static void counts(String when, TwoSlots x, int... want) {
        for (int what = 0; what < want.length; what++) {
            Due.is("count(" + what + ") " + when, x.count(what), want[what]);
        }
    }

    private static void wantsItsRange() {
        TwoSlots x = new TwoSlots(5, 0, 1L);
        int[] outside = {-1, 9, Integer.MAX_VALUE, Integer.MIN_VALUE};
        for (int what : outside) {
            Due.is("count(" + what + ")", x.count(what), TwoSlots.OUTSIDE);
        }
        counts("of a new object", x, 0, 0, 0, 0, 0, 0, 0, 0, 0);
    }

    private static void countsAnUpdate() {
        TwoSlots x = Due.booted(5);
        counts("behind boot()", x, 0, 0, 0, 1, 0, 0, 0, 0, 0);
        Due.update(x, 6, 3, 1, 0);
        counts("behind finish()", x, 21, 4, 1, 1, 0, 0, 1, 0, 0);
        x.boot();
        counts("behind boot() on trial", x, 22, 4, 2, 2, 1, 0, 1, 0, 0);
        x.tick(20);
        counts("behind a watchdog", x, 23, 4, 3, 3, 2, 1, 1, 0, 0);
        x.confirm();
        counts("behind confirm(), with an erase", x, 25, 5, 4, 3, 2, 1, 1, 0, 0);
        x.revoke(0);
        counts("behind revoke()", x, 26, 5, 5, 3, 2, 1, 1, 0, 0);
        x.revoke(0);
        x.offer();
        x.block();
        x.finish();
        x.confirm();
        x.rot(60, 0, 1);
        counts("behind what does nothing", x, 26, 5, 5, 3, 2, 1, 1, 0, 0);
    }

    private static void countsWhatPowerTook() {
        TwoSlots x = Due.booted(5);
        Due.offer(x, 6, 1, 1, 0);
        Due.blocks(x, 0, 1);
        x.cut(4, 0);
        Due.is("finish()", x.finish(), TwoSlots.LOST);
        counts("behind a lost record", x, 11, 2, 0, 1, 0, 0, 0, 0, 0);
        Due.is("boot()", x.boot(), TwoSlots.DOWN);
        counts("behind boot() while down", x, 11, 2, 0, 1, 0, 0, 0, 0, 0);
        x.start();
        x.boot();
        counts("behind start() and boot()", x, 11, 2, 0, 2, 0, 0, 0, 0, 0);
        Due.update(x, 6, 1, 1, 0);
        x.cut(0, 0);
        Due.is("boot()", x.boot(), TwoSlots.LOST);
        counts("behind a lost boot", x, 23, 4, 1, 3, 0, 0, 1, 0, 0);
    }

    private static void countsTapeAndBlocks() {
        TwoSlots x = Due.booted(5);
        x.make(6, 3, 1, 0);
        x.pack(TwoSlots.NONE);
        Due.is("count(7)", x.count(7), 64);
        x.offer();
        Due.is("count(7)", x.count(7), 0);
        for (int i = 0; i < 3; i++) {
            Due.is("count(8)", x.count(8), 3 - i);
            x.pack(i);
            Due.is("count(7)", x.count(7), 64);
            x.block();
            Due.is("count(7)", x.count(7), 0);
        }
        Due.is("count(8)", x.count(8), 0);
    }
}
