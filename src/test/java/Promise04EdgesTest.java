/** The boundary cases of promise 4: alter. */
public final class Promise04EdgesTest {
    public static void main(String[] args) {
        noSuchByte();
        withoutATape();
        aTapeThatIsUsedUp();
        masksOfEveryKind();
        refusedOnesLeaveTheTape();
        worksWhileDown();
        Due.end();
    }

    private static TwoSlots packed() {
        TwoSlots x = Due.booted(5);
        x.make(5, 1, 0, 0);
        Due.is("pack(0)", x.pack(0), 64);
        return x;
    }

    /** Promise 4: "what it is then. UNKNOWN." */
    private static void noSuchByte() {
        TwoSlots x = packed();
        Due.is("alter(0, 1)", x.alter(0, 1), 1);
        Due.is("alter(63, 1)", x.alter(63, 1), 62);
        int[] none = {-1, 64, Integer.MAX_VALUE, Integer.MIN_VALUE};
        for (int i : none) {
            Due.is("alter(" + i + ", 1)", x.alter(i, 1), TwoSlots.UNKNOWN);
        }
    }

    /** Promise 4: "Byte i of the tape": there is no tape. */
    private static void withoutATape() {
        TwoSlots x = new TwoSlots(5, 0, 1L);
        Due.is("alter(0, 0)", x.alter(0, 0), TwoSlots.UNKNOWN);
        x.make(5, 1, 0, 0);
        Due.is("alter(0, 0) behind make()", x.alter(0, 0), TwoSlots.UNKNOWN);
    }

    /** Promise 4, of Terms 5: "(but that what takes the tape uses it up)" */
    private static void aTapeThatIsUsedUp() {
        TwoSlots x = packed();
        Due.is("offer() of a block", x.offer(), TwoSlots.BAD);
        Due.is("alter(0, 0)", x.alter(0, 0), TwoSlots.UNKNOWN);
        Due.is("alter(63, 0)", x.alter(63, 0), TwoSlots.UNKNOWN);
    }

    /** Promise 4: "is xored with a mask: what it is then": it stays a byte, 0 .. 255. */
    private static void masksOfEveryKind() {
        int[][] masks = {{0, 5}, {255, 250}, {256, 250}, {-1, 5}, {128, 133}, {Integer.MIN_VALUE, 133}, {Integer.MAX_VALUE, 122}};
        TwoSlots x = packed();
        for (int[] mask : masks) {
            Due.is("alter(5, " + mask[0] + ")", x.alter(5, mask[0]), mask[1]);
        }
        Due.is("alter(4, 0)", x.alter(4, 0), 4);
        Due.is("alter(6, 0)", x.alter(6, 0), 6);
    }

    /** Promise 4, of Terms 5: "are told by calls that do nothing else" */
    private static void refusedOnesLeaveTheTape() {
        TwoSlots x = packed();
        String tape = Due.tape(x);
        x.alter(64, 255);
        x.alter(-1, 255);
        Due.is("the tape", Due.tape(x), tape);
    }

    /** Promise 4: "what it is then. UNKNOWN.": DOWN is not among its answers. */
    private static void worksWhileDown() {
        TwoSlots x = packed();
        Due.down(x);
        Due.is("alter(0, 0): the tape is gone", x.alter(0, 0), TwoSlots.UNKNOWN);
        x.pack(0);
        Due.is("alter(0, 0) of another one", x.alter(0, 0), 0);
        Due.is("alter(64, 0)", x.alter(64, 0), TwoSlots.UNKNOWN);
    }
}
