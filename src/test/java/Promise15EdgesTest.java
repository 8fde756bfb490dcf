/** The boundary cases of promise 15: octet. */
public final class Promise15EdgesTest {
    public static void main(String[] args) {
        firstAndLastByte();
        noSuchSector();
        noSuchByte();
        bytesHaveNoSign();
        worksWhileDown();
        Due.end();
    }

    /** Promise 15, of Terms 1: "64 SECTORS of 64 bytes" */
    private static void firstAndLastByte() {
        TwoSlots x = new TwoSlots(5, 29, 77L);
        Due.is("octet(0, 0)", x.octet(0, 0), 0);
        Due.is("octet(0, 15)", x.octet(0, 15), 90);
        Due.is("octet(2, 0)", x.octet(2, 0), 84);
        Due.is("octet(32, 63)", x.octet(32, 63), 29 + 3 * 63);
        Due.is("octet(33, 0)", x.octet(33, 0), 255);
        Due.is("octet(63, 63)", x.octet(63, 63), 255);
    }

    /** Promise 15: "A byte of the flash. UNKNOWN.": there is no such sector. */
    private static void noSuchSector() {
        TwoSlots x = new TwoSlots(5, 0, 77L);
        int[] none = {-1, 64, 1 << 26, Integer.MAX_VALUE, Integer.MIN_VALUE};
        for (int sector : none) {
            Due.is("octet(" + sector + ", 0)", x.octet(sector, 0), TwoSlots.UNKNOWN);
            Due.is("octet(" + sector + ", 63)", x.octet(sector, 63), TwoSlots.UNKNOWN);
        }
    }

    /** Promise 15: "A byte of the flash. UNKNOWN.": there is no such byte. */
    private static void noSuchByte() {
        TwoSlots x = new TwoSlots(5, 0, 77L);
        int[] none = {-1, 64, Integer.MAX_VALUE, Integer.MIN_VALUE};
        for (int i : none) {
            Due.is("octet(0, " + i + ")", x.octet(0, i), TwoSlots.UNKNOWN);
            Due.is("octet(63, " + i + ")", x.octet(63, i), TwoSlots.UNKNOWN);
        }
        Due.is("octet(1, -64): not a byte of another sector", x.octet(1, -64), TwoSlots.UNKNOWN);
    }

    /** Promise 15, of Terms 1: "erased (255) at first" */
    private static void bytesHaveNoSign() {
        TwoSlots x = new TwoSlots(5, 0, 77L);
        int[] values = {255, 128, 127, 0};
        for (int value : values) {
            Due.poke(x, 40, 9, value);
            Due.is("octet(40, 9)", x.octet(40, 9), value);
        }
    }

    /** Promise 15: "A byte of the flash. UNKNOWN.": DOWN is not among its answers. */
    private static void worksWhileDown() {
        TwoSlots x = Due.booted(5);
        Due.down(x);
        Due.is("octet(2, 0)", x.octet(2, 0), 84);
        Due.is("octet(2, 64)", x.octet(2, 64), TwoSlots.UNKNOWN);
    }
}
