/** Promises 2 to 4: make, pack, alter. The headers were worked out outside of Java. */
public final class MakerTest {
    private static final String HEADER = "54574f53000000090000000302000000000000004adc53f2e886b445"
        + "000000000000000000000000000000000000000000000000000000009e5085afeb909d52";
    private static final String HEADER_OF_MINUS_1 = "54574f53ffffffff0000000302000000000000002d13af46b7fef15d"
        + "00000000000000000000000000000000000000000000000000000000c0e847fda146d471";
    private static final String HEADER_OF_THE_LEAST = "54574f538000000000000003020000000000000040cc5f2dda531361"
        + "00000000000000000000000000000000000000000000000000000000b505a062401d4f00";
    private static final String HEADER_OF_THE_GREATEST = "54574f537fffffff000000030200000000000000e379da95b4e65c0a"
        + "000000000000000000000000000000000000000000000000000000003eecf0e953a97c9a";

    public static void main(String[] args) {
        makeTakesItsEdges();
        refusedMakeKeepsWhatWasMade();
        packsBlocks();
        packsHeaders();
        packsHeadersOfVersionsWithoutSign();
        packsWhatThereIs();
        alters();
        worksWhileDown();
        Due.end();
    }

    private static void makeTakesItsEdges() {
        TwoSlots x = new TwoSlots(0, 0, 0L);
        Due.is("make(0, 1, 0, 0)", x.make(0, 1, 0, 0), 1);
        Due.is("make(-1, 30, 3, -1)", x.make(-1, 30, 3, -1), 1);
        Due.is("make of the least", x.make(Integer.MIN_VALUE, 1, 0, Integer.MIN_VALUE), 1);
        int[][] outside = {{0, 0}, {31, 0}, {-1, 0}, {Integer.MAX_VALUE, 0}, {Integer.MIN_VALUE, 0},
            {1, -1}, {1, 4}, {1, Integer.MAX_VALUE}, {1, Integer.MIN_VALUE}};
        for (int[] o : outside) {
            Due.is("make(0, " + o[0] + ", " + o[1] + ", 0)", x.make(0, o[0], o[1], 0), TwoSlots.OUTSIDE);
        }
        Due.is("count(7): make lays no tape", x.count(7), 0);
    }

    private static void refusedMakeKeepsWhatWasMade() {
        TwoSlots x = new TwoSlots(0, 0, 0L);
        x.make(0, 2, 0, 9);
        x.make(0, 31, 0, 1);
        Due.is("pack(1) behind a refused make", x.pack(1), 64);
        Due.is("alter(0, 0)", x.alter(0, 0), 14);
    }

    private static void packsBlocks() {
        for (int i = 0; i < 30; i += 29) {
            TwoSlots x = new TwoSlots(0, 0, 0L);
            x.make(1, 30, 1, 250);
            Due.is("pack(" + i + ")", x.pack(i), 64);
            Due.is("count(7)", x.count(7), 64);
            for (int j = 0; j < 64; j++) {
                Due.is("byte " + j + " of block " + i, x.alter(j, 0), 250 + 5 * i + j & 255);
            }
        }
    }

    private static void packsHeaders() {
        TwoSlots x = new TwoSlots(0, 0, -5L);
        x.make(9, 3, 2, 250);
        Due.is("pack(-1)", x.pack(TwoSlots.NONE), 64);
        Due.is("the header", Due.tape(x), HEADER);
        for (int i = 0; i < 64; i++) {
            x.rot(2, i, 255);
        }
        x.slot(0, 1);
        x.pack(TwoSlots.NONE);
        Due.is("the header behind a look at a rotted one", Due.tape(x), HEADER);
    }

    private static void packsHeadersOfVersionsWithoutSign() {
        TwoSlots x = new TwoSlots(0, 0, -5L);
        x.make(-1, 3, 2, 250);
        Due.is("pack(-1) of version -1", x.pack(TwoSlots.NONE), 64);
        Due.is("the header of version -1", Due.tape(x), HEADER_OF_MINUS_1);
        x.make(Integer.MIN_VALUE, 3, 2, 250);
        x.pack(TwoSlots.NONE);
        Due.is("the header of the least version", Due.tape(x), HEADER_OF_THE_LEAST);
        x.make(Integer.MAX_VALUE, 3, 2, 250);
        x.pack(TwoSlots.NONE);
        Due.is("the header of the greatest version", Due.tape(x), HEADER_OF_THE_GREATEST);
    }

    private static void packsWhatThereIs() {
        TwoSlots x = new TwoSlots(0, 0, 0L);
        Due.is("pack(-1) of nothing", x.pack(TwoSlots.NONE), TwoSlots.UNKNOWN);
        x.make(9, 3, 2, 1);
        Due.is("pack(0)", x.pack(0), 64);
        int[] none = {3, 30, -2, Integer.MAX_VALUE, Integer.MIN_VALUE};
        for (int i : none) {
            Due.is("pack(" + i + ")", x.pack(i), TwoSlots.UNKNOWN);
        }
        Due.is("count(7): the tape stays", x.count(7), 64);
        Due.is("alter(0, 0): the tape stays", x.alter(0, 0), 1);
        Due.is("pack(2)", x.pack(2), 64);
        Due.is("alter(0, 0): another tape", x.alter(0, 0), 11);
    }

    private static void alters() {
        TwoSlots x = new TwoSlots(0, 0, 0L);
        Due.is("alter(0, 0) without a tape", x.alter(0, 0), TwoSlots.UNKNOWN);
        x.make(9, 1, 0, 0);
        x.pack(0);
        Due.is("alter(63, 255)", x.alter(63, 255), 192);
        Due.is("alter(63, 1)", x.alter(63, 1), 193);
        Due.is("alter(5, -1)", x.alter(5, -1), 250);
        Due.is("alter(5, 256)", x.alter(5, 256), 250);
        int[] none = {64, -1, Integer.MAX_VALUE, Integer.MIN_VALUE};
        for (int i : none) {
            Due.is("alter(" + i + ", 1)", x.alter(i, 1), TwoSlots.UNKNOWN);
        }
        x.pack(0);
        Due.is("alter(63, 0): what is packed again is whole", x.alter(63, 0), 63);
    }

    private static void worksWhileDown() {
        TwoSlots x = Due.booted(1);
        Due.down(x);
        Due.is("count(7): the tape is gone", x.count(7), 0);
        Due.is("pack(0) while down: the maker stays", x.pack(0), 64);
        Due.is("make(5, 2, 1, 1) while down", x.make(5, 2, 1, 1), 1);
        Due.is("pack(1) while down", x.pack(1), 64);
        Due.is("alter(0, 1) while down", x.alter(0, 1), 7);
        Due.is("start()", x.start(), 1);
        Due.is("count(7) behind start()", x.count(7), 64);
    }
}
