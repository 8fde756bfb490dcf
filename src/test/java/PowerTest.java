/** Promises 12 and 13: cut and start, and what power takes with it at any write. */
public final class PowerTest {
    public static void main(String[] args) {
        cutWantsItsRange();
        cutIsForTheWriteThatIsTold();
        cutMayBeTakenBack();
        tornErase();
        tornLine();
        tornRecord();
        tornEraseOfTheLog();
        memoryIsGone();
        startWantsDown();
        powerStaysBehindStart();
        lostTick();
        lostConfirmAndRevoke();
        somethingRunsWhereverPowerGoes();
        Due.end();
    }

    private static void cutWantsItsRange() {
        TwoSlots x = Due.booted(5);
        int[][] inside = {{-1, 0}, {-1, 63}, {0, 0}, {1000, 63}};
        for (int[] c : inside) {
            Due.is("cut(" + c[0] + ", " + c[1] + ")", x.cut(c[0], c[1]), 1);
        }
        int[][] outside = {{-2, 0}, {1001, 0}, {0, -1}, {0, 64}, {-1, -1}, {-1, 64},
            {Integer.MIN_VALUE, 0}, {Integer.MAX_VALUE, 0}, {0, Integer.MIN_VALUE}, {0, Integer.MAX_VALUE}};
        x.cut(0, 0);
        for (int[] c : outside) {
            Due.is("cut(" + c[0] + ", " + c[1] + ")", x.cut(c[0], c[1]), TwoSlots.OUTSIDE);
        }
        Due.is("revoke(1): what was set stays behind a refusal", x.revoke(1), TwoSlots.LOST);
        Due.is("cut(0, 0) while down", x.cut(0, 0), TwoSlots.DOWN);
        Due.is("cut(0, 64) while down", x.cut(0, 64), TwoSlots.DOWN);
    }

    private static void cutIsForTheWriteThatIsTold() {
        for (int n = 0; n < 6; n++) {
            TwoSlots x = Due.booted(5);
            Due.offer(x, 5, 1, 0, 0);
            x.cut(n, 5);
            x.pack(0);
            Due.is("block() with cut(" + n + ", 5)", x.block(), n < 5 ? TwoSlots.LOST : 0);
            Due.is("count(0)", x.count(0), n < 5 ? 2 + n : 6);
            Due.is("count(1)", x.count(1), 2);
            Due.is("running()", x.running(), n < 5 ? TwoSlots.DOWN : 0);
        }
    }

    private static void cutMayBeTakenBack() {
        TwoSlots x = Due.booted(5);
        x.cut(0, 0);
        x.cut(TwoSlots.NONE, 0);
        Due.is("revoke(1) behind cut(-1, 0)", x.revoke(1), 1);
        x.cut(0, 0);
        x.cut(1, 0);
        Due.is("revoke(2) behind cut(1, 0)", x.revoke(2), 1);
        Due.is("revoke(3): the write behind it", x.revoke(3), TwoSlots.LOST);
    }

    private static void tornErase() {
        int[] tears = {0, 1, 17, 63};
        for (int tear : tears) {
            TwoSlots x = Due.booted(5);
            for (int j = 0; j < 64; j++) {
                x.rot(33, j, 255);
            }
            x.cut(0, tear);
            Due.is("offer()", Due.offer(x, 5, 1, 0, 0), TwoSlots.LOST);
            for (int j = 0; j < 64; j++) {
                Due.is("octet(33, " + j + ") with a tear of " + tear, x.octet(33, j), j < tear ? 255 : 0);
            }
            Due.is("count(0)", x.count(0), 1);
            Due.is("count(1)", x.count(1), 1);
        }
    }

    private static void tornLine() {
        int[] tears = {0, 1, 15, 16, 21, 63};
        for (int tear : tears) {
            TwoSlots x = Due.booted(5);
            Due.offer(x, 5, 1, 0, 0);
            x.cut(3, tear);
            x.pack(0);
            Due.is("block()", x.block(), TwoSlots.LOST);
            int done = 32 + tear % 16;
            for (int j = 0; j < 64; j++) {
                Due.is("octet(34, " + j + ") with a tear of " + tear, x.octet(34, j), j < done ? j : 255);
            }
        }
    }

    private static void tornRecord() {
        for (int tear = 0; tear < 16; tear++) {
            TwoSlots x = Due.booted(5);
            x.cut(0, tear);
            Due.is("revoke(1)", x.revoke(1), TwoSlots.LOST);
            Due.is("record(0) with a tear of " + tear, x.record(0), 1);
            Due.is("count(2): none was appended", x.count(2), 0);
            x.start();
            x.boot();
            Due.is("revoke(1)", x.revoke(1), 1);
            Due.is("record(7): what is torn is passed over", x.record(7), tear == 0 ? 1 : 2);
            Due.is("record(0)", x.record(0), 2);
        }
    }

    private static void tornEraseOfTheLog() {
        for (int tear = 0; tear < 64; tear += 7) {
            TwoSlots x = Due.booted(5);
            Due.settle(x, 6, 1, 1, 0);
            Due.settle(x, 7, 1, 1, 0);
            x.revoke(2);
            Due.is("record(6)", x.record(6), 1);
            Due.is("record(7)", x.record(7), 3);
            x.cut(0, tear);
            Due.is("revoke(3)", x.revoke(3), TwoSlots.LOST);
            Due.is("count(1)", x.count(1), 6);
            Due.is("record(0) with a tear of " + tear, x.record(0), 8);
            for (int line = 0; line < 4; line++) {
                Due.is("first byte of line " + line, x.octet(0, 16 * line), 16 * line < tear ? 255 : 0);
            }
            x.start();
            Due.is("boot()", x.boot(), 0);
            Due.is("revoke(3)", x.revoke(3), 1);
            Due.is("record(6)", x.record(6), 0);
            Due.is("record(7)", x.record(7), 0);
            Due.is("record(0)", x.record(0), 9);
        }
    }

    private static void memoryIsGone() {
        TwoSlots x = Due.booted(5);
        Due.update(x, 6, 2, 0, 0);
        x.boot();
        x.pack(0);
        x.cut(0, 9);
        Due.is("confirm()", x.confirm(), TwoSlots.LOST);
        Due.is("while down", Due.look(x), "runs -100 watchdog -100 record 3 0 1 2 0 5 0 2"
            + " slot 1 1 5 1 0 slot 1 1 6 2 0 count 18 3 2 2 1 0 1 0 0");
        Due.is("start()", x.start(), 1);
        Due.is("behind start()", Due.look(x), "runs -1 watchdog 0 record 3 0 1 2 0 5 0 2"
            + " slot 1 1 5 1 0 slot 1 1 6 2 0 count 18 3 2 2 1 0 1 0 0");
        Due.is("confirm(): nothing is on trial", x.confirm(), TwoSlots.STATE);
        Due.is("tick(100)", x.tick(100), 0);

        x = Due.booted(5);
        Due.offer(x, 6, 2, 0, 0);
        x.cut(0, 9);
        x.pack(0);
        Due.is("block()", x.block(), TwoSlots.LOST);
        Due.is("count(8)", x.count(8), 0);
        x.start();
        x.pack(0);
        Due.is("block(): nothing is offered", x.block(), TwoSlots.STATE);
        Due.is("finish(): nothing is offered", x.finish(), TwoSlots.STATE);
    }

    private static void startWantsDown() {
        TwoSlots x = Due.booted(5);
        Due.is("start()", x.start(), TwoSlots.STATE);
        Due.is("running()", x.running(), 0);
        Due.down(x);
        Due.is("start()", x.start(), 1);
        Due.is("start() again", x.start(), TwoSlots.STATE);
        Due.is("running()", x.running(), TwoSlots.NONE);
    }

    private static void powerStaysBehindStart() {
        TwoSlots x = Due.booted(5);
        Due.down(x);
        x.start();
        x.boot();
        Due.is("confirm() of a whole update", Due.settle(x, 6, 30, 0, 0), 6);
        Due.is("revoke(1)", x.revoke(1), 1);
    }

    private static void lostTick() {
        TwoSlots x = Due.booted(5);
        Due.update(x, 6, 1, 0, 0);
        x.boot();
        x.cut(1, 3);
        Due.is("tick(100)", x.tick(100), TwoSlots.LOST);
        Due.is("count(5)", x.count(5), 2);
        Due.is("count(3)", x.count(3), 4);
        Due.is("count(4)", x.count(4), 2);
        Due.is("tick(1)", x.tick(1), TwoSlots.DOWN);
        x.start();
        Due.is("boot()", x.boot(), 1);
        Due.is("record(3)", x.record(3), 0);
    }

    private static void lostConfirmAndRevoke() {
        TwoSlots x = Due.booted(5);
        Due.update(x, 6, 1, 2, 0);
        x.boot();
        x.cut(0, 15);
        Due.is("confirm()", x.confirm(), TwoSlots.LOST);
        x.start();
        Due.is("boot(): it is tried still", x.boot(), 1);
        Due.is("confirm()", x.confirm(), 6);
        x.cut(0, 15);
        Due.is("revoke(0)", x.revoke(0), TwoSlots.LOST);
        x.start();
        Due.is("boot()", x.boot(), 1);
        Due.is("record(4)", x.record(4), 0);
        x.cut(0, 0);
        x.rot(34, 0, 1);
        x.rot(0, 40, 0);
        Due.is("boot() with a cut: nothing is good, nothing is written", x.boot(), TwoSlots.NONE);
    }

    /** Two updates, the first one given up, the second one confirmed: power goes at each write, with many a tear. */
    private static void somethingRunsWhereverPowerGoes() {
        TwoSlots whole = Due.booted(5);
        updatesLose(whole);
        int writes = whole.count(0);
        Due.is("confirm() was done", whole.record(5), 7);
        for (int n = 0; n <= writes; n++) {
            for (int tear = 0; tear < 64; tear += 3) {
                TwoSlots x = Due.booted(5);
                x.cut(n, tear);
                boolean lost = updatesLose(x);
                Due.is("power went with cut(" + n + ", " + tear + ")", lost ? 1 : 0, n < writes ? 1 : 0);
                Due.is("start()", x.start(), lost ? 1 : TwoSlots.STATE);
                x.cut(TwoSlots.NONE, 0);
                int slot = x.boot();
                Due.is("a slot runs behind cut(" + n + ", " + tear + ")", slot == 0 || slot == 1 ? 1 : 0, 1);
                x.confirm();
                Due.is("confirm() behind cut(" + n + ", " + tear + ")", Due.settle(x, 9, 2, 1, 4), 9);
            }
        }
    }

    private static boolean updatesLose(TwoSlots x) {
        Due.update(x, 6, 2, 1, 3);
        x.boot();
        x.tick(100);
        x.revoke(3);
        Due.update(x, 7, 2, 2, 3);
        x.boot();
        x.confirm();
        x.revoke(0);
        return x.running() == TwoSlots.DOWN;
    }
}
