/** Promise 11: revoke. */
public final class RevokeTest {
    public static void main(String[] args) {
        revokes();
        wantsAKey();
        wantsItsState();
        keepsTheKeyThatRuns();
        takesTheOtherSlot();
        bitsAboveKeyThreeDoNotMatter();
        refusalComesBeforeZero();
        Due.end();
    }

    private static void revokes() {
        TwoSlots x = Due.booted(5);
        Due.is("revoke(3)", x.revoke(3), 1);
        Due.is("the record", Due.bytes(x, 0, 16, 16), "0000000200ff0008000000050000005a");
        Due.is("revoke(3) again", x.revoke(3), 0);
        Due.is("count(2)", x.count(2), 1);
        Due.is("revoke(1)", x.revoke(1), 1);
        Due.is("record(4)", x.record(4), 10);
        Due.is("record(0)", x.record(0), 3);
        Due.is("count(0)", x.count(0), 2);
        Due.is("running()", x.running(), 0);
    }

    private static void wantsAKey() {
        TwoSlots x = Due.booted(5);
        int[] none = {-1, 4, 32, Integer.MAX_VALUE, Integer.MIN_VALUE};
        for (int k : none) {
            Due.is("revoke(" + k + ")", x.revoke(k), TwoSlots.UNKNOWN);
        }
        Due.is("count(2)", x.count(2), 0);
        x = new TwoSlots(5, 0, 1L);
        Due.is("revoke(4) when nothing runs: the key comes first", x.revoke(4), TwoSlots.UNKNOWN);
    }

    private static void wantsItsState() {
        TwoSlots x = new TwoSlots(5, 0, 77L);
        Due.is("revoke(1) when nothing runs", x.revoke(1), TwoSlots.STATE);
        x.boot();
        Due.offer(x, 6, 1, 1, 0);
        Due.is("revoke(2) when something is offered", x.revoke(2), TwoSlots.STATE);
        Due.blocks(x, 0, 1);
        Due.is("revoke(2) when all blocks are there", x.revoke(2), TwoSlots.STATE);
        x.finish();
        Due.is("revoke(2) when a slot is being tried", x.revoke(2), TwoSlots.STATE);
        x.boot();
        Due.is("revoke(2) on trial", x.revoke(2), TwoSlots.STATE);
        x.confirm();
        Due.is("revoke(2)", x.revoke(2), 1);
        x.rot(0, 63, 1);
        x.rot(1, 15, 1);
        for (int line = 0; line < 4; line++) {
            x.rot(0, 16 * line, 1);
        }
        Due.is("record(0)", x.record(0), TwoSlots.NONE);
        Due.is("revoke(3) without a record", x.revoke(3), TwoSlots.STATE);
    }

    private static void keepsTheKeyThatRuns() {
        TwoSlots x = Due.booted(5);
        Due.is("revoke(0)", x.revoke(0), TwoSlots.STATE);
        Due.settle(x, 6, 1, 2, 0);
        x.slot(0, 4);
        Due.is("revoke(2)", x.revoke(2), TwoSlots.STATE);
        x.slot(0, 4);
        Due.is("revoke(0)", x.revoke(0), 1);
    }

    private static void takesTheOtherSlot() {
        TwoSlots x = Due.booted(5);
        Due.settle(x, 5, 1, 2, 0);
        Due.is("slot(0, 0)", x.slot(0, 0), 1);
        x.revoke(0);
        Due.is("slot(0, 0)", x.slot(0, 0), 0);
        Due.is("slot(0, 1)", x.slot(0, 1), 0);
        Due.is("slot(0, 2)", x.slot(0, 2), 0);
        x.rot(34, 0, 1);
        Due.is("boot()", x.boot(), TwoSlots.NONE);
    }

    private static void bitsAboveKeyThreeDoNotMatter() {
        TwoSlots x = Due.booted(5);
        x.rot(0, 7, 0xF0);
        Due.is("record(0)", x.record(0), 1);
        Due.is("slot(0, 0)", x.slot(0, 0), 1);
        Due.is("revoke(1)", x.revoke(1), 1);
        Due.is("record(4)", x.record(4), 0xF2);
    }

    private static void refusalComesBeforeZero() {
        TwoSlots x = Due.booted(5);
        x.revoke(1);
        Due.offer(x, 6, 1, 0, 0);
        Due.is("revoke(1) of a key that is revoked, with an offer", x.revoke(1), TwoSlots.STATE);
    }
}
