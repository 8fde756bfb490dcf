/** What refused calls do, and which refusal of several is told. */
public final class RefusalTest {
    public static void main(String[] args) {
        whileDown();
        refusedCallsChangeNothing();
        Due.end();
    }

    private static void whileDown() {
        TwoSlots x = Due.booted(5);
        Due.down(x);
        x.pack(TwoSlots.NONE);
        String before = Due.look(x);
        Due.is("offer()", x.offer(), TwoSlots.DOWN);
        Due.is("block()", x.block(), TwoSlots.DOWN);
        Due.is("finish()", x.finish(), TwoSlots.DOWN);
        Due.is("boot()", x.boot(), TwoSlots.DOWN);
        Due.is("confirm()", x.confirm(), TwoSlots.DOWN);
        Due.is("tick(1)", x.tick(1), TwoSlots.DOWN);
        Due.is("tick(0)", x.tick(0), TwoSlots.DOWN);
        Due.is("revoke(1)", x.revoke(1), TwoSlots.DOWN);
        Due.is("revoke(9)", x.revoke(9), TwoSlots.DOWN);
        Due.is("cut(0, 0)", x.cut(0, 0), TwoSlots.DOWN);
        Due.is("cut(-9, 0)", x.cut(-9, 0), TwoSlots.DOWN);
        Due.is("running()", x.running(), TwoSlots.DOWN);
        Due.is("watchdog()", x.watchdog(), TwoSlots.DOWN);
        Due.is("make(1, 0, 0, 0)", x.make(1, 0, 0, 0), TwoSlots.OUTSIDE);
        Due.is("pack(30)", x.pack(30), TwoSlots.UNKNOWN);
        Due.is("alter(64, 0)", x.alter(64, 0), TwoSlots.UNKNOWN);
        Due.is("rot(64, 0, 1)", x.rot(64, 0, 1), TwoSlots.UNKNOWN);
        Due.is("octet(0, 64)", x.octet(0, 64), TwoSlots.UNKNOWN);
        Due.is("slot(2, 9)", x.slot(2, 9), TwoSlots.UNKNOWN);
        Due.is("slot(1, 9)", x.slot(1, 9), TwoSlots.OUTSIDE);
        Due.is("record(9)", x.record(9), TwoSlots.OUTSIDE);
        Due.is("count(9)", x.count(9), TwoSlots.OUTSIDE);
        Due.is("nothing is other", Due.look(x), before);
    }

    private static void refusedCallsChangeNothing() {
        TwoSlots x = Due.booted(5);
        Due.offer(x, 6, 2, 1, 0);
        x.pack(0);
        String before = Due.look(x);
        Due.is("finish()", x.finish(), TwoSlots.STATE);
        Due.is("confirm()", x.confirm(), TwoSlots.STATE);
        Due.is("start()", x.start(), TwoSlots.STATE);
        Due.is("revoke(2)", x.revoke(2), TwoSlots.STATE);
        Due.is("tick(0)", x.tick(0), TwoSlots.OUTSIDE);
        Due.is("cut(0, 64)", x.cut(0, 64), TwoSlots.OUTSIDE);
        Due.is("make(1, 1, 4, 1)", x.make(1, 1, 4, 1), TwoSlots.OUTSIDE);
        Due.is("pack(2)", x.pack(2), TwoSlots.UNKNOWN);
        Due.is("nothing is other", Due.look(x), before);
        Due.is("block()", x.block(), 1);
    }
}
