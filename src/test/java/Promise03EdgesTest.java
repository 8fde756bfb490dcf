/** The boundary cases of promise 3: pack. The headers, digests and seals were worked out outside of Java. */
public final class Promise03EdgesTest {
    private static final String HEADER_OF_MINUS_1 = "54574f53ffffffff0000000302000000000000002d13af46b7fef15d"
        + "00000000000000000000000000000000000000000000000000000000c0e847fda146d471";
    private static final String HEADER_OF_THE_LEAST = "54574f538000000000000003020000000000000040cc5f2dda531361"
        + "00000000000000000000000000000000000000000000000000000000b505a062401d4f00";
    private static final String HEADER_OF_THE_GREATEST = "54574f537fffffff000000030200000000000000e379da95b4e65c0a"
        + "000000000000000000000000000000000000000000000000000000003eecf0e953a97c9a";

    public static void main(String[] args) {
        noSuchBlock();
        aMakerThatHasNothing();
        refusedOnesLeaveTheTape();
        headersOfExtremeVersions();
        numbersBeginWithTheHighestByte();
        headersOfTheSmallestAndTheLargest();
        digestsWrap();
        everyKeyHasItsNumber();
        aTapeIsLaidAnew();
        aHeaderIsRightWhateverWasLookedAt();
        worksWhileDown();
        Due.end();
    }

    private static TwoSlots made(int version, int size, int key) {
        TwoSlots x = new TwoSlots(0, 0, -5L);
        Due.is("make()", x.make(version, size, key, 250), 1);
        return x;
    }

    /** Promise 3: "UNKNOWN (there is no such block" */
    private static void noSuchBlock() {
        int[] sizes = {1, 2, 30};
        for (int size : sizes) {
            TwoSlots x = made(9, size, 2);
            Due.is("pack(0) of " + size, x.pack(0), 64);
            Due.is("pack(" + (size - 1) + ") of " + size, x.pack(size - 1), 64);
            Due.is("its first byte", x.alter(0, 0), (250 + 5 * (size - 1)) % 256);
            int[] none = {size, size + 1, -2, Integer.MAX_VALUE, Integer.MIN_VALUE};
            for (int i : none) {
                Due.is("pack(" + i + ") of " + size, x.pack(i), TwoSlots.UNKNOWN);
            }
        }
    }

    /** Promise 3: "UNKNOWN (there is no such block; it has nothing)." */
    private static void aMakerThatHasNothing() {
        TwoSlots x = new TwoSlots(0, 0, -5L);
        int[] none = {TwoSlots.NONE, 0, 1, -2};
        for (int i : none) {
            Due.is("pack(" + i + ")", x.pack(i), TwoSlots.UNKNOWN);
        }
    }

    /** Promise 3, of Terms 5: "are told by calls that do nothing else" */
    private static void refusedOnesLeaveTheTape() {
        TwoSlots x = made(9, 2, 2);
        x.pack(1);
        x.alter(63, 255);
        String tape = Due.tape(x);
        x.pack(2);
        x.pack(-2);
        Due.is("the tape", Due.tape(x), tape);
    }

    /** Promise 3, of Terms 3: "from its VERSION (as a long)", and "VERSION (4, without sign)" */
    private static void headersOfExtremeVersions() {
        int[] versions = {-1, Integer.MIN_VALUE, Integer.MAX_VALUE};
        String[] headers = {HEADER_OF_MINUS_1, HEADER_OF_THE_LEAST, HEADER_OF_THE_GREATEST};
        for (int v = 0; v < 3; v++) {
            TwoSlots x = made(versions[v], 3, 2);
            Due.is("pack(-1)", x.pack(TwoSlots.NONE), 64);
            Due.is("the header of version " + versions[v], Due.tape(x), headers[v]);
        }
    }

    /** Promise 3, of Terms 2: "all numbers highest byte first" */
    private static void numbersBeginWithTheHighestByte() {
        TwoSlots x = made(0x01020304, 29, 3);
        x.pack(TwoSlots.NONE);
        Due.is("the first 20 bytes", Due.tape(x).substring(0, 40), "54574f53" + "01020304" + "0000001d" + "03" + "00000000000000");
    }

    /** Promise 3, of Terms 3: "The BODY'S is of all bytes of its SIZE blocks" */
    private static void headersOfTheSmallestAndTheLargest() {
        int[] sizes = {1, 30};
        for (int size : sizes) {
            int[] body = new int[64 * size];
            for (int at = 0; at < body.length; at++) {
                body[at] = (250 + 5 * (at / 64) + at % 64) % 256;
            }
            TwoSlots x = made(9, size, 2);
            x.pack(TwoSlots.NONE);
            Due.is("the digest of " + size, Due.tape(x).substring(40, 56), String.format("%016x", Due.digest(9L, body)));
        }
    }

    /** Promise 3, of Terms 3: "it becomes (it xor b), turned left by 13 bits, times 0x9E3779B97F4A7C15 (wrapping)." */
    private static void digestsWrap() {
        long[] keys = {0L, -1L, Long.MAX_VALUE, Long.MIN_VALUE};
        int[][] made = {{0, 1, 0, 0}, {0, 30, 3, 255}, {-1, 30, 3, -1}, {Integer.MIN_VALUE, 1, 1, Integer.MIN_VALUE}};
        String[] digests = {"be5292507a1cd572", "00d7f9ca06b3d08d", "a4de767df641f1bf", "e982a4933de67d07"};
        String[] seals = {"db2b4531dffd8678", "a28b0ba3a846e320", "d2c4918442e63757", "aa7c695f7771ccbe"};
        for (int n = 0; n < 4; n++) {
            TwoSlots x = new TwoSlots(0, 0, keys[n]);
            x.make(made[n][0], made[n][1], made[n][2], made[n][3]);
            x.pack(TwoSlots.NONE);
            Due.is("the body's digest, image " + n, Due.tape(x).substring(40, 56), digests[n]);
            Due.is("the seal, image " + n, Due.tape(x).substring(112), seals[n]);
        }
    }

    /** Promise 3, of Terms 3: "The SEAL is of the 56 bytes before it, from the key's number." */
    private static void everyKeyHasItsNumber() {
        long[] keys = {0L, -1L, Long.MAX_VALUE, Long.MIN_VALUE};
        for (long key : keys) {
            for (int k = 0; k < 4; k++) {
                TwoSlots x = new TwoSlots(0, 0, key);
                x.make(9, 1, k, 0);
                x.pack(TwoSlots.NONE);
                String header = Due.tape(x);
                Due.reseal(x, key);
                Due.is("the header by key " + k + " of " + key, Due.tape(x), header);
            }
        }
    }

    /** Promise 3: "The maker's block i is the tape, or, with i = NONE, its right header: 64." */
    private static void aTapeIsLaidAnew() {
        TwoSlots x = made(9, 1, 2);
        x.pack(TwoSlots.NONE);
        String header = Due.tape(x);
        x.alter(0, 255);
        x.pack(0);
        Due.is("byte 63 of a block behind a header", x.alter(63, 0), (250 + 63) % 256);
        x.alter(63, 255);
        Due.is("pack(-1) once more", x.pack(TwoSlots.NONE), 64);
        Due.is("the header", Due.tape(x), header);
    }

    /** Promise 3: "its right header: 64.": also behind a look at headers that are not right. */
    private static void aHeaderIsRightWhateverWasLookedAt() {
        TwoSlots x = Due.booted(5);
        x.make(9, 1, 2, 0);
        x.pack(TwoSlots.NONE);
        String header = Due.tape(x);
        for (int i = 0; i < 64; i++) {
            x.rot(33, i, 128);
        }
        Due.is("slot(1, 1)", x.slot(1, 1), 0);
        x.pack(TwoSlots.NONE);
        Due.is("the header behind a rotted one", Due.tape(x), header);
        x.pack(0);
        Due.is("offer() of a block", x.offer(), TwoSlots.BAD);
        x.pack(TwoSlots.NONE);
        Due.is("the header behind a tape that was none", Due.tape(x), header);
    }

    /** Promise 3: "64. UNKNOWN (there is no such block; it has nothing).": DOWN is not among its answers. */
    private static void worksWhileDown() {
        TwoSlots x = Due.booted(5);
        Due.down(x);
        Due.is("pack(-1)", x.pack(TwoSlots.NONE), 64);
        Due.is("pack(0)", x.pack(0), 64);
        Due.is("pack(1)", x.pack(1), TwoSlots.UNKNOWN);
    }
}
