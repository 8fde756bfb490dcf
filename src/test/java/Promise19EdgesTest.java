/** The boundary cases of promise 19: record, and the log. */
public final class Promise19EdgesTest {
    public static void main(String[] args) {
        noSuchQuestion();
        withoutARecord();
        outsideComesBeforeNone();
        worksWhileDown();
        numbersBeginWithTheHighestByte();
        firstAndLastByte();
        activeSlots();
        triedSlots();
        triesOfARecord();
        otherBytesDoNotCount();
        whatATornEraseLeaves();
        revokedIsAByte();
        theGreatestSerial();
        theFirstOfSeveralByLine();
        theFirstOfSeveralBySector();
        theSectorComesBeforeTheLine();
        serialsCarry();
        theLastSerialThatIsWhole();
        theLineBehindTheNewest();
        linesThatAreNotErasedArePassedOver();
        linesBeforeTheNewestAreNotTaken();
        aFullSector();
        aFullSectorWhoseOtherIsErased();
        fromTheSecondSectorToTheFirst();
        aNewestThatIsNotTheLast();
        asTheNewestIs();
        theBytesBehindTheCounter();
        Due.end();
    }

    /** A new object whose first record has one byte other: the line of the newest, or NONE. */
    private static int newestWith(int i, int value) {
        TwoSlots x = new TwoSlots(5, 0, 77L);
        Due.poke(x, 0, i, value);
        return x.record(7);
    }

    /** A line of the log becomes a record with this serial and counter. */
    private static void lay(TwoSlots x, int sector, int line, int serial, int counter) {
        int[] record = {serial >>> 24, serial >>> 16 & 255, serial >>> 8 & 255, serial & 255, 0, 255, 0, 0,
            0, 0, 0, counter, 0, 0, 0, 90};
        for (int i = 0; i < 16; i++) {
            Due.poke(x, sector, 16 * line + i, record[i]);
        }
    }

    private static void newestIs(TwoSlots x, int sector, int line) {
        Due.is("record(6)", x.record(6), sector);
        Due.is("record(7)", x.record(7), line);
    }

    /** Promise 19: "Of the newest record: what = 0 SERIAL, 1 ACTIVE, 2 TRYING (NONE), 3 TRIES, 4 REVOKED, 5 COUNTER, 6 its sector, 7 its line (0 .. 3)" */
    private static void noSuchQuestion() {
        TwoSlots x = Due.updated(6);
        int[] want = {2, 0, 1, 3, 0, 5, 0, 1};
        for (int what = 0; what < 8; what++) {
            Due.is("record(" + what + ")", x.record(what), want[what]);
        }
        int[] outside = {-1, 8, Integer.MAX_VALUE, Integer.MIN_VALUE};
        for (int what : outside) {
            Due.is("record(" + what + ")", x.record(what), TwoSlots.OUTSIDE);
        }
    }

    /** Promise 19: "NONE without one (by rot)." */
    private static void withoutARecord() {
        TwoSlots x = Due.confirmed(6);
        x.revoke(0);
        Due.turnRecords(x);
        for (int what = 0; what < 8; what++) {
            Due.is("record(" + what + ")", x.record(what), TwoSlots.NONE);
        }
        Due.turnRecords(x);
        Due.is("record(0) with the records again", x.record(0), 5);
    }

    /** Promise 19: "OUTSIDE. NONE without one (by rot)." */
    private static void outsideComesBeforeNone() {
        TwoSlots x = Due.booted(5);
        Due.turnRecords(x);
        Due.is("record(8)", x.record(8), TwoSlots.OUTSIDE);
        Due.is("record(-1)", x.record(-1), TwoSlots.OUTSIDE);
    }

    /** Promise 19: "7 its line (0 .. 3). OUTSIDE.": DOWN is not among its answers. */
    private static void worksWhileDown() {
        TwoSlots x = Due.booted(5);
        Due.down(x);
        Due.is("record(0)", x.record(0), 1);
        Due.is("record(5)", x.record(5), 5);
        Due.is("record(8)", x.record(8), TwoSlots.OUTSIDE);
    }

    /** Promise 19, of Terms 2: "a SERIAL (4 bytes; all numbers highest byte first)" */
    private static void numbersBeginWithTheHighestByte() {
        TwoSlots x = new TwoSlots(0x81020304, 0, 77L);
        Due.is("record(5)", x.record(5), 0x81020304);
        Due.is("its bytes", Due.bytes(x, 0, 8, 4), "81020304");
        Due.pokeSerial(x, 0x00810203);
        Due.is("its bytes", Due.bytes(x, 0, 0, 4), "00810203");
    }

    /** Promise 19, of Terms 2: "It is WHOLE if its first byte is 0 and its last one 90" */
    private static void firstAndLastByte() {
        int[] first = {1, 128, 255};
        for (int value : first) {
            Due.is("record(7) with a first byte of " + value, newestWith(0, value), TwoSlots.NONE);
        }
        int[] last = {0, 89, 91, 218, 255};
        for (int value : last) {
            Due.is("record(7) with a last byte of " + value, newestWith(15, value), TwoSlots.NONE);
        }
        Due.is("record(7) as it was", newestWith(15, 90), 0);
    }

    /** Promise 19, of Terms 2: "ACTIVE is 0 or 1" */
    private static void activeSlots() {
        int[][] values = {{0, 0}, {1, 0}, {2, TwoSlots.NONE}, {128, TwoSlots.NONE}, {255, TwoSlots.NONE}};
        for (int[] v : values) {
            Due.is("record(7) with ACTIVE " + v[0], newestWith(4, v[0]), v[1]);
        }
        TwoSlots x = new TwoSlots(5, 0, 77L);
        Due.poke(x, 0, 4, 1);
        Due.is("record(1)", x.record(1), 1);
    }

    /** Promise 19, of Terms 2: "TRYING 0, 1 or 255" */
    private static void triedSlots() {
        int[][] values = {{0, 0}, {1, 0}, {2, TwoSlots.NONE}, {127, TwoSlots.NONE}, {128, TwoSlots.NONE}, {254, TwoSlots.NONE}, {255, 0}};
        for (int[] v : values) {
            Due.is("record(7) with TRYING " + v[0], newestWith(5, v[0]), v[1]);
        }
        TwoSlots x = new TwoSlots(5, 0, 77L);
        Due.is("record(2) of 255", x.record(2), TwoSlots.NONE);
        Due.poke(x, 0, 5, 0);
        Due.is("record(2) of 0", x.record(2), 0);
        Due.poke(x, 0, 5, 1);
        Due.is("record(2) of 1", x.record(2), 1);
    }

    /** Promise 19, of Terms 2: "TRIES 0 .. 3." */
    private static void triesOfARecord() {
        int[][] values = {{0, 0}, {3, 0}, {4, TwoSlots.NONE}, {128, TwoSlots.NONE}, {255, TwoSlots.NONE}};
        for (int[] v : values) {
            Due.is("record(7) with TRIES " + v[0], newestWith(6, v[0]), v[1]);
        }
    }

    /** Promise 19, of Terms 2: "It is WHOLE if its first byte is 0 and its last one 90, ACTIVE is 0 or 1, TRYING 0, 1 or 255" */
    private static void otherBytesDoNotCount() {
        int[] others = {1, 2, 3, 7, 8, 9, 10, 11, 12, 13, 14};
        for (int i : others) {
            Due.is("record(7) with byte " + i + " being 255", newestWith(i, 255), 0);
            Due.is("record(7) with byte " + i + " being 0", newestWith(i, 0), 0);
        }
    }

    /** Promise 19, of Terms 2: "(So what a torn ERASE leaves of an old one is none: its first byte is 255.)" */
    private static void whatATornEraseLeaves() {
        for (int tear = 0; tear < 64; tear++) {
            TwoSlots x = Due.confirmed(6);
            lay(x, 1, 0, 4, 60);
            lay(x, 1, 1, 4, 61);
            lay(x, 1, 2, 4, 62);
            lay(x, 1, 3, 4, 63);
            x.cut(0, tear);
            Due.is("revoke(0)", x.revoke(0), TwoSlots.LOST);
            newestIs(x, 0, 3);
            Due.turnRecords(x);
            for (int line = 0; line < 4; line++) {
                Due.poke(x, 1, 16 * line + 15, tear > 16 * line + 15 ? 255 : 90);
            }
            int first = (tear + 15) / 16;
            Due.is("record(7) in the torn sector, tear " + tear, x.record(7), first > 3 ? TwoSlots.NONE : first);
        }
    }

    /** Promise 19, of Terms 2: "REVOKED (keys as bits)" */
    private static void revokedIsAByte() {
        TwoSlots x = new TwoSlots(5, 0, 77L);
        int[] values = {0, 1, 8, 15, 16, 128, 255};
        for (int value : values) {
            Due.poke(x, 0, 7, value);
            Due.is("record(4)", x.record(4), value);
        }
    }

    /** Promise 19, of Terms 2: "The NEWEST is the whole one with the greatest SERIAL (without sign" */
    private static void theGreatestSerial() {
        int[][] serials = {{2, 1}, {0xFFFFFF, 0xFFFFFE}, {0x800000, 0x7FFFFF}, {0x010000, 0xFFFF}, {0x0100, 0xFF}, {1, 0}};
        for (int[] s : serials) {
            TwoSlots x = new TwoSlots(5, 0, 77L);
            lay(x, 0, 0, s[1], 60);
            lay(x, 1, 2, s[0], 61);
            newestIs(x, 1, 2);
            lay(x, 0, 0, s[0], 60);
            lay(x, 1, 2, s[1], 61);
            newestIs(x, 0, 0);
        }
        TwoSlots x = new TwoSlots(5, 0, 77L);
        lay(x, 0, 1, 0x80000001, 60);
        newestIs(x, 0, 0);
    }

    /** Promise 19, of Terms 2: "of several the first by sector, then line" */
    private static void theFirstOfSeveralByLine() {
        TwoSlots x = new TwoSlots(5, 0, 77L);
        lay(x, 0, 1, 7, 61);
        lay(x, 0, 2, 7, 62);
        lay(x, 0, 3, 7, 63);
        newestIs(x, 0, 1);
        Due.is("record(5)", x.record(5), 61);
        Due.poke(x, 0, 31, 91);
        newestIs(x, 0, 2);
    }

    /** Promise 19, of Terms 2: "of several the first by sector, then line" */
    private static void theFirstOfSeveralBySector() {
        TwoSlots x = new TwoSlots(5, 0, 77L);
        lay(x, 1, 2, 7, 61);
        newestIs(x, 1, 2);
        lay(x, 0, 2, 7, 62);
        newestIs(x, 0, 2);
        Due.is("record(5)", x.record(5), 62);
    }

    /** Promise 19, of Terms 2: "of several the first by sector, then line" */
    private static void theSectorComesBeforeTheLine() {
        TwoSlots x = new TwoSlots(5, 0, 77L);
        lay(x, 1, 0, 7, 61);
        lay(x, 0, 3, 7, 62);
        newestIs(x, 0, 3);
    }

    /** Promise 19, of Terms 2: "and its SERIAL, one more" */
    private static void serialsCarry() {
        int[] serials = {0xFF, 0xFFFF, 0x7FFFFF, 0xFFFFFE};
        for (int serial : serials) {
            TwoSlots x = Due.booted(5);
            Due.pokeSerial(x, serial);
            Due.is("revoke(1)", x.revoke(1), 1);
            Due.is("record(0) behind " + serial, x.record(0), serial + 1);
            newestIs(x, 0, 1);
        }
    }

    /**
     * Promise 19, of Terms 2: "its SERIAL, one more (wrapping)", and
     * "(What is the newest is told by what lies in the flash, also behind this.)":
     * behind 00ffffff comes 01000000, whose first byte is not 0.
     */
    private static void theLastSerialThatIsWhole() {
        TwoSlots x = Due.booted(5);
        Due.pokeSerial(x, 0xFFFFFF);
        for (int line = 1; line < 4; line++) {
            Due.is("revoke(1)", x.revoke(1), 1);
            Due.is("what is appended", Due.bytes(x, 0, 16 * line, 16), "01000000" + "00ff0002" + "00000005" + "0000005a");
            newestIs(x, 0, 0);
        }
        for (int erases = 1; erases < 4; erases++) {
            Due.is("revoke(1)", x.revoke(1), 1);
            Due.is("what is appended", Due.bytes(x, 1, 0, 16), "01000000" + "00ff0002" + "00000005" + "0000005a");
            Due.is("the line behind it", Due.bytes(x, 1, 16, 16), "ff".repeat(16));
            Due.is("count(1)", x.count(1), erases);
            newestIs(x, 0, 0);
        }
        Due.is("count(2)", x.count(2), 6);
    }

    /** Promise 19, of Terms 2: "in the first line behind the newest, of its sector" */
    private static void theLineBehindTheNewest() {
        TwoSlots x = Due.booted(5);
        for (int k = 1; k < 4; k++) {
            x.revoke(k);
            newestIs(x, 0, k);
            Due.is("record(0)", x.record(0), 1 + k);
        }
        Due.is("count(0): a write each", x.count(0), 3);
    }

    /** Promise 19, of Terms 2: "all of whose bytes are 255" */
    private static void linesThatAreNotErasedArePassedOver() {
        for (int i = 0; i < 16; i++) {
            TwoSlots x = Due.booted(5);
            x.rot(0, 16 + i, 1 << i % 8);
            x.revoke(1);
            newestIs(x, 0, 2);
        }
        TwoSlots x = Due.booted(5);
        x.rot(0, 16, 1);
        x.rot(0, 47, 1);
        x.revoke(1);
        newestIs(x, 0, 3);
        x = Due.booted(5);
        x.rot(0, 16, 1);
        x.rot(0, 32, 1);
        x.rot(0, 63, 1);
        x.revoke(1);
        newestIs(x, 1, 0);
        Due.is("the first sector stays", Due.bytes(x, 0, 60, 4), "fffffffe");
    }

    /** Promise 19, of Terms 2: "the first line behind the newest" */
    private static void linesBeforeTheNewestAreNotTaken() {
        TwoSlots x = Due.booted(5);
        lay(x, 0, 2, 9, 5);
        x.revoke(1);
        newestIs(x, 0, 3);
        Due.is("the line before it", Due.bytes(x, 0, 16, 16), "ff".repeat(16));
        x.revoke(2);
        newestIs(x, 1, 0);
        Due.is("the line before it", Due.bytes(x, 0, 16, 16), "ff".repeat(16));
    }

    /** Promise 19, of Terms 2: "if there is none, the other sector is erased, and it is that one's first line." */
    private static void aFullSector() {
        TwoSlots x = Due.confirmed(6);
        newestIs(x, 0, 3);
        for (int line = 0; line < 4; line++) {
            lay(x, 1, line, 2, 60);
        }
        int erases = x.count(1);
        Due.is("revoke(0)", x.revoke(0), 1);
        newestIs(x, 1, 0);
        Due.is("record(0)", x.record(0), 5);
        Due.is("the rest of its sector", Due.bytes(x, 1, 16, 48), "ff".repeat(48));
        Due.is("count(1)", x.count(1), erases + 1);
        Due.is("the full sector stays", x.octet(0, 63), 90);
    }

    /** Promise 19, of Terms 2: "the other sector is erased": also if all its bytes are 255. */
    private static void aFullSectorWhoseOtherIsErased() {
        TwoSlots x = Due.booted(5);
        for (int k = 1; k < 4; k++) {
            x.revoke(k);
        }
        Due.pokeRecord(x, 7, 0);
        Due.is("revoke(1)", x.revoke(1), 1);
        Due.is("count(0)", x.count(0), 5);
        Due.is("count(1)", x.count(1), 1);
    }

    /** Promise 19, of Terms 2: "if there is none, the other sector is erased": the log goes round. */
    private static void fromTheSecondSectorToTheFirst() {
        TwoSlots x = Due.booted(5);
        for (int n = 1; n < 18; n++) {
            Due.pokeRecord(x, 7, 0);
            Due.is("revoke(1)", x.revoke(1), 1);
            newestIs(x, n / 4 % 2, n % 4);
            Due.is("record(0)", x.record(0), n + 1);
            Due.is("count(1)", x.count(1), n / 4);
        }
    }

    /** Promise 19, of Terms 2: "in the first line behind the newest, of its sector": rot has made it another sector. */
    private static void aNewestThatIsNotTheLast() {
        TwoSlots x = Due.booted(5);
        lay(x, 1, 3, 9, 5);
        x.revoke(1);
        newestIs(x, 0, 0);
        Due.is("record(0)", x.record(0), 10);
        Due.is("the line behind it: its sector was erased", Due.bytes(x, 0, 16, 16), "ff".repeat(16));
    }

    /** Promise 19, of Terms 2: "A record is APPENDED: as the newest is, but for what is told" */
    private static void asTheNewestIs() {
        TwoSlots x = Due.booted(5);
        Due.pokeRecord(x, 6, 2);
        Due.pokeRecord(x, 7, 0x58);
        x.revoke(2);
        Due.is("the record", Due.bytes(x, 0, 16, 16), "00000002" + "00" + "ff" + "02" + "5c" + "00000005" + "0000005a");
    }

    /** Promise 19, of Terms 2: "COUNTER (4), two bytes 0, a byte 0, a byte 90.": also where the newest's have rotted. */
    private static void theBytesBehindTheCounter() {
        TwoSlots x = Due.booted(5);
        for (int i = 12; i < 15; i++) {
            Due.pokeRecord(x, i, 255);
        }
        x.revoke(1);
        Due.is("its last four bytes", Due.bytes(x, 0, 28, 4), "0000005a");
    }
}
