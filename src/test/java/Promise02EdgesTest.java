/** The boundary cases of promise 2: make. */
public final class Promise02EdgesTest {
    public static void main(String[] args) {
        sizes();
        keys();
        versionsAndSeedsOfEveryKind();
        bytesWrapRound();
        refusedOnesChangeNothing();
        refusedOnesLeaveAMakerThatHasNothing();
        worksWhileDown();
        Due.end();
    }

    /** Promise 2: "a size (1 .. 30)" */
    private static void sizes() {
        TwoSlots x = new TwoSlots(3, 0, 9L);
        Due.is("make(3, 1, 0, 0)", x.make(3, 1, 0, 0), 1);
        Due.is("make(3, 30, 0, 0)", x.make(3, 30, 0, 0), 1);
        int[] outside = {0, 31, -1, Integer.MAX_VALUE, Integer.MIN_VALUE};
        for (int size : outside) {
            Due.is("make(3, " + size + ", 0, 0)", x.make(3, size, 0, 0), TwoSlots.OUTSIDE);
        }
    }

    /** Promise 2: "a key (0 .. 3)" */
    private static void keys() {
        TwoSlots x = new TwoSlots(3, 0, 9L);
        Due.is("make(3, 1, 0, 0)", x.make(3, 1, 0, 0), 1);
        Due.is("make(3, 1, 3, 0)", x.make(3, 1, 3, 0), 1);
        int[] outside = {-1, 4, 256, Integer.MAX_VALUE, Integer.MIN_VALUE};
        for (int key : outside) {
            Due.is("make(3, 1, " + key + ", 0)", x.make(3, 1, key, 0), TwoSlots.OUTSIDE);
        }
    }

    /** Promise 2: "gets a version, a size (1 .. 30), a key (0 .. 3), a seed": of a version and a seed no bound is told. */
    private static void versionsAndSeedsOfEveryKind() {
        TwoSlots x = new TwoSlots(3, 0, 9L);
        int[] numbers = {0, -1, Integer.MAX_VALUE, Integer.MIN_VALUE};
        for (int n : numbers) {
            Due.is("make(" + n + ", 1, 0, 0)", x.make(n, 1, 0, 0), 1);
            Due.is("make(3, 1, 0, " + n + ")", x.make(3, 1, 0, n), 1);
        }
    }

    /** Promise 2: "its byte j of block i is seed + 5 i + j, lowest 8 bits" */
    private static void bytesWrapRound() {
        int[][] seeds = {{0, 0}, {255, 255}, {256, 0}, {-1, 255}, {-256, 0}, {Integer.MAX_VALUE, 255}, {Integer.MIN_VALUE, 0}};
        for (int[] seed : seeds) {
            TwoSlots x = new TwoSlots(3, 0, 9L);
            x.make(3, 30, 0, seed[0]);
            for (int i = 0; i < 30; i += 29) {
                x.pack(i);
                for (int j = 0; j < 64; j++) {
                    Due.is("byte " + j + " of block " + i + ", seed " + seed[0], x.alter(j, 0), (seed[1] + 5 * i + j) % 256);
                }
            }
        }
    }

    /** Promise 2, of Terms 5: "are told by calls that do nothing else" */
    private static void refusedOnesChangeNothing() {
        TwoSlots x = new TwoSlots(3, 0, 9L);
        x.make(3, 2, 1, 9);
        x.pack(TwoSlots.NONE);
        String header = Due.tape(x);
        x.make(4, 31, 2, 1);
        x.make(4, 1, 4, 1);
        Due.is("count(7): the tape stays", x.count(7), 64);
        Due.is("pack(1) of two blocks still", x.pack(1), 64);
        Due.is("its first byte", x.alter(0, 0), 14);
        x.pack(TwoSlots.NONE);
        Due.is("the header", Due.tape(x), header);
    }

    /** Promise 2, of Terms 5: "are told by calls that do nothing else" */
    private static void refusedOnesLeaveAMakerThatHasNothing() {
        TwoSlots x = new TwoSlots(3, 0, 9L);
        x.make(3, 0, 0, 0);
        x.make(3, 1, -1, 0);
        Due.is("pack(-1)", x.pack(TwoSlots.NONE), TwoSlots.UNKNOWN);
        Due.is("pack(0)", x.pack(0), TwoSlots.UNKNOWN);
    }

    /** Promise 2: "lowest 8 bits: 1. OUTSIDE.": DOWN is not among its answers. */
    private static void worksWhileDown() {
        TwoSlots x = Due.booted(5);
        Due.down(x);
        Due.is("make(5, 30, 3, 0)", x.make(5, 30, 3, 0), 1);
        Due.is("make(5, 31, 3, 0)", x.make(5, 31, 3, 0), TwoSlots.OUTSIDE);
    }
}
