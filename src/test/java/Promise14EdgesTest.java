/** The boundary cases of promise 14: rot. */
public final class Promise14EdgesTest {
    public static void main(String[] args) {
        firstAndLastByte();
        noSuchSector();
        noSuchByte();
        masksOfEveryKind();
        bitsMayBeSetToo();
        itIsNoWrite();
        refusedOnesChangeNothing();
        worksWhileDown();
        whatRunsRunsOn();
        Due.end();
    }

    /** Promise 14: "A byte of the flash is xored with a mask: what it is then." */
    private static void firstAndLastByte() {
        TwoSlots x = new TwoSlots(5, 0, 77L);
        Due.is("rot(0, 0, 3)", x.rot(0, 0, 3), 3);
        Due.is("rot(63, 63, 3)", x.rot(63, 63, 3), 252);
        Due.is("rot(0, 63, 1)", x.rot(0, 63, 1), 254);
        Due.is("rot(63, 0, 2)", x.rot(63, 0, 2), 253);
        Due.is("octet(0, 0)", x.octet(0, 0), 3);
        Due.is("octet(63, 63)", x.octet(63, 63), 252);
        Due.is("octet(0, 63)", x.octet(0, 63), 254);
        Due.is("octet(1, 0): not the byte behind it", x.octet(1, 0), 255);
        Due.is("octet(62, 63): not the byte before it", x.octet(62, 63), 255);
    }

    /** Promise 14: "UNKNOWN (sector" */
    private static void noSuchSector() {
        TwoSlots x = new TwoSlots(5, 0, 77L);
        int[] none = {-1, 64, 1 << 26, Integer.MAX_VALUE, Integer.MIN_VALUE};
        for (int sector : none) {
            Due.is("rot(" + sector + ", 0, 1)", x.rot(sector, 0, 1), TwoSlots.UNKNOWN);
            Due.is("rot(" + sector + ", 63, 1)", x.rot(sector, 63, 1), TwoSlots.UNKNOWN);
        }
    }

    /** Promise 14: "UNKNOWN (sector, byte)" */
    private static void noSuchByte() {
        TwoSlots x = new TwoSlots(5, 0, 77L);
        int[] none = {-1, 64, Integer.MAX_VALUE, Integer.MIN_VALUE};
        for (int i : none) {
            Due.is("rot(0, " + i + ", 1)", x.rot(0, i, 1), TwoSlots.UNKNOWN);
            Due.is("rot(63, " + i + ", 1)", x.rot(63, i, 1), TwoSlots.UNKNOWN);
        }
        Due.is("rot(1, -64, 1): not a byte of another sector", x.rot(1, -64, 1), TwoSlots.UNKNOWN);
    }

    /** Promise 14: "is xored with a mask: what it is then": it stays a byte, 0 .. 255. */
    private static void masksOfEveryKind() {
        int[][] masks = {{0, 255}, {1, 254}, {255, 1}, {256, 1}, {-1, 254}, {-256, 254}, {Integer.MIN_VALUE, 254}, {Integer.MAX_VALUE, 1}};
        TwoSlots x = new TwoSlots(5, 0, 77L);
        for (int[] mask : masks) {
            Due.is("rot(50, 7, " + mask[0] + ")", x.rot(50, 7, mask[0]), mask[1]);
            Due.is("octet(50, 7)", x.octet(50, 7), mask[1]);
        }
    }

    /** Promise 14: "is xored with a mask": other than a write, it sets bits, too. */
    private static void bitsMayBeSetToo() {
        TwoSlots x = new TwoSlots(5, 0, 77L);
        Due.is("rot(2, 0, 171)", x.rot(2, 0, 171), 255);
        Due.is("slot(0, 1)", x.slot(0, 1), 0);
        Due.is("rot(2, 0, 171) again", x.rot(2, 0, 171), 84);
        Due.is("slot(0, 1)", x.slot(0, 1), 1);
    }

    /** Promise 14, of Terms 1: "Both are WRITES.": rot is neither. */
    private static void itIsNoWrite() {
        TwoSlots x = Due.booted(5);
        x.cut(0, 0);
        Due.is("rot(50, 7, 1)", x.rot(50, 7, 1), 254);
        Due.is("count(0)", x.count(0), 0);
        Due.is("running()", x.running(), 0);
    }

    /** Promise 14, of Terms 5: "are told by calls that do nothing else" */
    private static void refusedOnesChangeNothing() {
        TwoSlots x = Due.booted(5);
        String before = Due.look(x) + Due.bytes(x, 0, 0, 64) + Due.bytes(x, 63, 0, 64);
        x.rot(-1, 0, 255);
        x.rot(64, 0, 255);
        x.rot(0, 64, 255);
        x.rot(0, -1, 255);
        Due.is("nothing is other", Due.look(x) + Due.bytes(x, 0, 0, 64) + Due.bytes(x, 63, 0, 64), before);
    }

    /** Promise 14: "what it is then. UNKNOWN (sector, byte).": DOWN is not among its answers. */
    private static void worksWhileDown() {
        TwoSlots x = Due.booted(5);
        Due.down(x);
        Due.is("rot(0, 15, 1)", x.rot(0, 15, 1), 91);
        Due.is("record(0)", x.record(0), TwoSlots.NONE);
        Due.is("rot(64, 0, 1)", x.rot(64, 0, 1), TwoSlots.UNKNOWN);
    }

    /** Promise 14: "A byte of the flash": what runs is in memory. */
    private static void whatRunsRunsOn() {
        TwoSlots x = Due.onTrial(6);
        x.rot(33, 0, 255);
        x.rot(34, 0, 255);
        Due.is("running()", x.running(), 1);
        Due.is("watchdog()", x.watchdog(), 20);
        Due.is("tick(19)", x.tick(19), 0);
    }
}
