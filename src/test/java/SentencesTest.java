import java.util.Arrays;

/** Sentences of the document that name no boundary case, each with a test of its own; QuotesTest looks for the others. */
public final class SentencesTest {
    private static final long KEY = 77L;
    private static final int[] EDGES = {0, 1, -1, 2, 3, 4, 5, 9, 30, 31, 63, 64, 100, 101, Integer.MAX_VALUE, Integer.MIN_VALUE};

    public static void main(String[] args) {
        twoSlots();
        aFlashThatOnlyClearsBits();
        sealedImages();
        aLogThatTells();
        aWatchdog();
        laterCallsEnd();
        aRecordsBytes();
        theDigestIsTheNumberFirst();
        whatIsGood();
        byTheNewestRecord();
        aSlotOnTrial();
        whileOneRuns();
        theTapeIsTheHeader();
        threeKindsOfBad();
        whatTheMakerGets();
        refusedCallsDoNothingElse();
        noCallTellsRoom();
        Due.end();
    }

    /** Promise 16, of What it is: "A device with two slots for what it runs" */
    private static void twoSlots() {
        TwoSlots x = Due.booted(5);
        for (int version = 6; version < 12; version++) {
            int to = version % 2 == 0 ? 1 : 0;
            Due.is("finish() of version " + version, Due.update(x, version, 2, version % 4, version), to);
            Due.is("running(): what ran runs on", x.running(), 1 - to);
            Due.is("boot()", x.boot(), to);
            Due.is("running()", x.running(), to);
            Due.is("confirm()", x.confirm(), version);
            Due.is("slot(" + to + ", 2)", x.slot(to, 2), version);
            Due.is("slot(" + (1 - to) + ", 2): the other one stays", x.slot(1 - to, 2), version - 1);
        }
        Due.is("slot(2, 0): there is no third one", x.slot(2, 0), TwoSlots.UNKNOWN);
    }

    /** Promise 12, of What it is: "in a flash that only clears bits and is erased by sectors", and "and power that may go at any write." */
    private static void aFlashThatOnlyClearsBits() {
        TwoSlots whole = Due.booted(5);
        twoUpdates(whole);
        int writes = whole.count(0);
        Due.is("erases: two headers, two blocks, one of the log", whole.count(1), 5);
        int erases = 0;
        int[] before = flashBehind(0);
        for (int n = 1; n <= writes; n++) {
            int[] behind = flashBehind(n);
            int from = Arrays.mismatch(before, behind);
            Due.is("write " + n + " changes something, or is an erase", from >= 0 || n == 1 ? 1 : 0, 1);
            boolean line = from >= 0 && onlyClears(before, behind, from / 16 * 16);
            Due.is("write " + n + " clears bits of a line, or erases a sector", line || erases(before, behind, from) ? 1 : 0, 1);
            erases += line ? 0 : 1;
            before = behind;
        }
        Due.is("writes that set bits", erases, 5);
        before = flashOfFinishBehind(0);
        for (int n = 1; n <= 5; n++) {
            int[] behind = flashOfFinishBehind(n);
            int line = Arrays.mismatch(before, behind) / 16 * 16;
            Due.is("write " + n + " of finish() clears bits of a line", onlyClears(before, behind, line) ? 1 : 0, 1);
            before = behind;
        }
    }

    private static void twoUpdates(TwoSlots x) {
        Due.settle(x, 6, 1, 1, 100);
        Due.settle(x, 7, 1, 2, 200);
        x.revoke(1);
    }

    /** The sectors that two small updates use, as they are when power has gone behind the n-th write. */
    private static int[] flashBehind(int n) {
        TwoSlots x = Due.booted(5);
        // An erase of what is erased could not be told from none.
        x.rot(34, 9, 255);
        x.rot(1, 9, 255);
        x.cut(n, 0);
        twoUpdates(x);
        return flash(x);
    }

    /** The same behind writes of finish(), where bits of each of the header's lines have rotted behind the erase. */
    private static int[] flashOfFinishBehind(int n) {
        TwoSlots x = Due.booted(5);
        Due.offer(x, 6, 1, 1, 100);
        Due.blocks(x, 0, 1);
        for (int i = 0; i < 64; i += 2) {
            x.rot(33, i, 0xF3);
        }
        x.cut(n, 0);
        Due.is("finish() with cut(" + n + ", 0)", x.finish(), n < 5 ? TwoSlots.LOST : 1);
        return flash(x);
    }

    private static int[] flash(TwoSlots x) {
        int[] sectors = {0, 1, 2, 3, 33, 34};
        int[] bytes = new int[64 * sectors.length];
        for (int at = 0; at < bytes.length; at++) {
            bytes[at] = x.octet(sectors[at / 64], at % 64);
        }
        return bytes;
    }

    private static boolean onlyClears(int[] before, int[] behind, int line) {
        boolean clears = true;
        for (int at = 0; at < before.length; at++) {
            boolean inside = at >= line && at < line + 16;
            clears &= inside ? (behind[at] & ~before[at]) == 0 : behind[at] == before[at];
        }
        return clears;
    }

    private static boolean erases(int[] before, int[] behind, int from) {
        boolean erased = true;
        for (int at = 0; from >= 0 && at < before.length; at++) {
            erased &= behind[at] == (at / 64 == from / 64 ? 255 : before[at]);
        }
        return erased;
    }

    /** Promise 6, of What it is: "sealed images that come block by block" */
    private static void sealedImages() {
        TwoSlots x = Due.booted(5);
        Due.is("offer()", Due.offer(x, 6, 4, 1, 10), 1);
        for (int i = 0; i < 4; i++) {
            Due.is("block " + i, Due.blocks(x, i, i + 1), 3 - i);
            Due.is("slot(1, 1): the seal is not there", x.slot(1, 1), 0);
            for (int j = 0; j < 4; j++) {
                Due.is("octet(" + (34 + j) + ", 0) behind block " + i, x.octet(34 + j, 0), j <= i ? 10 + 5 * j : 255);
            }
        }
        Due.is("finish()", x.finish(), 1);
        Due.is("slot(1, 1)", x.slot(1, 1), 1);
        Due.is("slot(1, 0)", x.slot(1, 0), 1);
    }

    /** Promise 19, of What it is: "a log of records that tells which slot is active, which is tried, how often still, and below which version nothing runs" */
    private static void aLogThatTells() {
        TwoSlots x = Due.booted(5);
        tells(x, 0, TwoSlots.NONE, 0, 5);
        Due.update(x, 8, 1, 1, 0);
        tells(x, 0, 1, 3, 5);
        for (int tries = 2; tries >= 0; tries--) {
            Due.is("boot()", x.boot(), 1);
            tells(x, 0, 1, tries, 5);
            x.cut(0, 0);
            Due.is("confirm()", x.confirm(), TwoSlots.LOST);
            tells(x, 0, 1, tries, 5);
            x.start();
        }
        Due.is("boot() when no try is left", x.boot(), 0);
        tells(x, 0, TwoSlots.NONE, 0, 5);
        Due.is("confirm() of another update", Due.settle(x, 8, 1, 1, 0), 8);
        tells(x, 1, TwoSlots.NONE, 0, 8);
        Due.is("slot(0, 0): below it nothing is good", x.slot(0, 0), 0);
        x.rot(34, 0, 1);
        Due.is("boot(): below it nothing runs", x.boot(), TwoSlots.NONE);
    }

    private static void tells(TwoSlots x, int active, int trying, int tries, int counter) {
        Due.is("record(1)", x.record(1), active);
        Due.is("record(2)", x.record(2), trying);
        Due.is("record(3)", x.record(3), tries);
        Due.is("record(5)", x.record(5), counter);
    }

    /** Promise 17, of What it is: "a watchdog" */
    private static void aWatchdog() {
        TwoSlots hung = Due.onTrial(6);
        TwoSlots well = Due.onTrial(6);
        for (int n = 0; n < 60; n++) {
            Due.is("watchdog() behind " + n + " ticks", hung.watchdog(), 20 - n % 20);
            Due.is("running()", hung.running(), 1);
            Due.is("tick(1)", hung.tick(1), n % 20 == 19 ? 1 : 0);
        }
        Due.is("running(): what was active runs again", hung.running(), 0);
        Due.is("watchdog()", hung.watchdog(), 0);
        well.tick(10);
        well.confirm();
        Due.is("tick(100) of what was confirmed", well.tick(100), 0);
        Due.is("running()", well.running(), 1);
    }

    /** Promise 20, of What it is: "An object is used for at most 512 calls after it has been made; what later calls answer is free.": they end. */
    private static void laterCallsEnd() {
        TwoSlots x = Due.onTrial(6);
        int ended = 0;
        for (int n = 0; n < 50000; n++) {
            call(x, n % 19, EDGES[n / 19 % 16], EDGES[n / 19 / 16 % 16], EDGES[n / 7 % 16], n);
            ended++;
        }
        Due.is("calls that ended", ended, 50000);
    }

    /** The call of this number, in the order of the document's face. */
    private static int call(TwoSlots x, int method, int a, int b, int c, int d) {
        switch (method) {
            case 0: return x.make(a, b, c, d);
            case 1: return x.pack(a);
            case 2: return x.alter(a, b);
            case 3: return x.offer();
            case 4: return x.block();
            case 5: return x.finish();
            case 6: return x.boot();
            case 7: return x.confirm();
            case 8: return x.tick(a);
            case 9: return x.revoke(a);
            case 10: return x.cut(a, b);
            case 11: return x.start();
            case 12: return x.rot(a, b, c);
            case 13: return x.octet(a, b);
            case 14: return x.running();
            case 15: return x.watchdog();
            case 16: return x.slot(a, b);
            case 17: return x.record(a);
            default: return x.count(a);
        }
    }

    /**
     * Promise 19, of Terms 2: "THE LOG has RECORDS, a line each: a SERIAL (4 bytes; all numbers highest byte first),
     * ACTIVE (a slot), TRYING (a slot; 255 none), TRIES (0 .. 3), REVOKED (keys as bits), COUNTER (4), two bytes 0, a byte 0, a byte 90."
     */
    private static void aRecordsBytes() {
        TwoSlots x = Due.booted(0x01020304);
        Due.is("the first line", Due.bytes(x, 0, 0, 16), "00000001" + "00" + "ff" + "00" + "00" + "01020304" + "000000" + "5a");
        Due.is("confirm()", Due.settle(x, 0x91020305, 1, 1, 0), 0x91020305);
        Due.is("line 3", Due.bytes(x, 0, 48, 16), "00000004" + "01" + "ff" + "00" + "00" + "91020305" + "000000" + "5a");
        x.revoke(0);
        x.revoke(3);
        Due.is("finish()", Due.update(x, 0x91020305, 1, 2, 0), 0);
        Due.is("line 2 of the other sector", Due.bytes(x, 1, 32, 16), "00000007" + "01" + "00" + "03" + "09" + "91020305" + "000000" + "5a");
        Due.is("boot()", x.boot(), 0);
        Due.is("line 3 of the other sector", Due.bytes(x, 1, 48, 16), "00000008" + "01" + "00" + "02" + "09" + "91020305" + "000000" + "5a");
        int[] want = {8, 1, 0, 2, 9, 0x91020305, 1, 3};
        for (int what = 0; what < 8; what++) {
            Due.is("record(" + what + ")", x.record(what), want[what]);
        }
    }

    /** Promise 7, of Terms 3: "DIGEST of bytes from a number: it is that number first; for each byte b: it becomes (it xor b), turned left by 13 bits" */
    private static void theDigestIsTheNumberFirst() {
        int[][] masks = {{0, 0, 1}, {1, 1, 1}, {128, 128, 1}, {1, 0, TwoSlots.BAD}, {0, 1, TwoSlots.BAD}, {1, 2, TwoSlots.BAD}};
        for (int[] m : masks) {
            TwoSlots x = Due.booted(5);
            x.make(0x700, 1, 0, 9);
            x.pack(TwoSlots.NONE);
            x.alter(7, m[0]);
            Due.reseal(x, KEY);
            Due.is("offer()", x.offer(), 1);
            x.pack(0);
            x.alter(0, m[1]);
            Due.is("block()", x.block(), 0);
            Due.is("finish() with the version xor " + m[0] + ", the first byte xor " + m[1], x.finish(), m[2]);
        }
    }

    /** Promise 18, of Terms 3: "A slot is GOOD if its header is right, its VERSION (without sign) is not below the COUNTER, and its body's digest is the one that is told." */
    private static void whatIsGood() {
        int[][] rots = {{2, 0, 1, 0}, {2, 63, 1, 0}, {0, 7, 1, 0}, {0, 11, 2, 1}, {0, 8, 128, 1}, {3, 0, 1, 1}, {3, 63, 128, 1}};
        for (int[] r : rots) {
            TwoSlots x = Due.booted(5);
            Due.is("slot(0, 0)", x.slot(0, 0), 1);
            x.rot(r[0], r[1], r[2]);
            Due.is("slot(0, 0) with byte " + r[1] + " of sector " + r[0] + " rotted", x.slot(0, 0), 0);
            Due.is("slot(0, 1)", x.slot(0, 1), r[3]);
            Due.is("boot()", x.boot(), TwoSlots.NONE);
            x.rot(r[0], r[1], r[2]);
            Due.is("slot(0, 0) when it has rotted back", x.slot(0, 0), 1);
            Due.is("boot()", x.boot(), 0);
        }
    }

    /** Promise 8, of Terms 4: "BOOT, by the newest record: if it is TRYING a slot that is GOOD", and "BOOT: which slot runs" */
    private static void byTheNewestRecord() {
        TwoSlots x = Due.confirmed(5);
        Due.is("boot() by record 4: slot 1 is active", x.boot(), 1);
        Due.is("watchdog()", x.watchdog(), 0);
        x.rot(0, 63, 1);
        Due.is("record(0)", x.record(0), 3);
        x.rot(0, 47, 1);
        x.rot(0, 31, 1);
        Due.is("boot() by record 1: slot 0 is active", x.boot(), 0);
        x.rot(0, 31, 1);
        Due.is("boot() by record 2: slot 1 is tried", x.boot(), 1);
        Due.is("watchdog()", x.watchdog(), 20);
        Due.is("record(3)", x.record(3), 2);
        Due.is("record(0)", x.record(0), 3);
        Due.is("record(6): no line of its sector was erased", x.record(6), 1);
        x.rot(0, 63, 1);
        Due.is("boot() by record 4 again", x.boot(), 1);
        Due.is("watchdog()", x.watchdog(), 0);
    }

    /** Promise 9, of Terms 4: "CONFIRMED is a slot on trial: a record with it as ACTIVE, trying none, TRIES 0, and its VERSION as COUNTER" */
    private static void aSlotOnTrial() {
        TwoSlots x = Due.booted(5);
        Due.is("confirm() of what is not on trial", x.confirm(), TwoSlots.STATE);
        for (int version = 6; version < 10; version++) {
            Due.update(x, version, 1, 0, 0);
            Due.is("confirm() before it runs", x.confirm(), TwoSlots.STATE);
            x.boot();
            Due.is("confirm() of version " + version, x.confirm(), version);
            tells(x, version % 2 == 0 ? 1 : 0, TwoSlots.NONE, 0, version);
            Due.is("confirm() once more", x.confirm(), TwoSlots.STATE);
        }
    }

    /** Promise 5, of Terms 5: "UPDATES go to the slot that is not ACTIVE, while one runs that is not on trial." */
    private static void whileOneRuns() {
        TwoSlots x = new TwoSlots(5, 0, KEY);
        Due.is("offer() before any boot", Due.offer(x, 6, 1, 0, 0), TwoSlots.STATE);
        x.boot();
        Due.is("finish() while slot 0 runs", Due.update(x, 6, 1, 0, 0), 1);
        x.boot();
        Due.is("offer() while slot 1 is on trial", Due.offer(x, 6, 1, 0, 0), TwoSlots.STATE);
        x.tick(60);
        Due.is("offer() while slot 0 runs again", Due.offer(x, 6, 1, 0, 0), 1);
        Due.blocks(x, 0, 1);
        x.finish();
        x.boot();
        x.confirm();
        Due.is("offer() while slot 1 runs", Due.offer(x, 6, 1, 0, 0), 0);
        x.rot(34, 0, 1);
        x.boot();
        Due.is("offer() while nothing runs", Due.offer(x, 6, 1, 0, 0), TwoSlots.STATE);
    }

    /** Promise 5: "The tape is a header that is OFFERED: to which slot." */
    private static void theTapeIsTheHeader() {
        TwoSlots x = Due.booted(5);
        x.make(0x01020304, 2, 3, 40);
        x.pack(TwoSlots.NONE);
        String header = Due.tape(x);
        Due.is("offer()", x.offer(), 1);
        Due.is("count(8)", x.count(8), 2);
        Due.blocks(x, 0, 2);
        x.make(9, 1, 0, 0);
        x.pack(TwoSlots.NONE);
        Due.is("finish() with another header on the tape", x.finish(), 1);
        Due.is("the header in the flash", Due.bytes(x, 33, 0, 64), header);
    }

    /** Promise 5: "BAD (no 64 bytes, not RIGHT, below the COUNTER; what was offered before stays), LOST." */
    private static void threeKindsOfBad() {
        for (int kind = 0; kind < 3; kind++) {
            TwoSlots x = Due.booted(5);
            Due.offer(x, 6, 2, 0, 0);
            x.make(kind == 2 ? 4 : 5, 1, 0, 0);
            if (kind > 0) {
                x.pack(TwoSlots.NONE);
            }
            if (kind == 1) {
                x.alter(30, 1);
            }
            Due.is("offer(), kind " + kind, x.offer(), TwoSlots.BAD);
            Due.is("count(8)", x.count(8), 2);
            x.pack(TwoSlots.NONE);
            Due.is("offer() of what the maker has", x.offer(), kind == 2 ? TwoSlots.BAD : 1);
            Due.is("count(8)", x.count(8), kind == 2 ? 2 : 1);
        }
    }

    /** Promise 2: "The MAKER of images gets a version, a size (1 .. 30), a key (0 .. 3), a seed: its byte j of block i is seed + 5 i + j" */
    private static void whatTheMakerGets() {
        TwoSlots x = Due.booted(5);
        Due.is("make(6, 3, 1, 7)", x.make(6, 3, 1, 7), 1);
        x.pack(TwoSlots.NONE);
        Due.is("its header", Due.tape(x).substring(8, 26), "00000006" + "00000003" + "01");
        x.pack(2);
        Due.is("byte 1 of block 2", x.alter(1, 0), 7 + 10 + 1);
        Due.is("make(-2, 2, 3, -1)", x.make(-2, 2, 3, -1), 1);
        Due.is("alter(1, 0): the tape stays", x.alter(1, 0), 7 + 10 + 1);
        x.pack(TwoSlots.NONE);
        Due.is("its header", Due.tape(x).substring(8, 26), "fffffffe" + "00000002" + "03");
        Due.is("pack(2): it has two blocks", x.pack(2), TwoSlots.UNKNOWN);
        x.pack(1);
        Due.is("byte 1 of block 1", x.alter(1, 0), 5);
    }

    /** An object in one of nine states: new, running, offered, filled, updated, on trial, confirmed, down, without a record. */
    private static TwoSlots inState(int state) {
        TwoSlots x = state == 0 ? new TwoSlots(5, 0, KEY) : state == 4 ? Due.updated(6) : state == 5 ? Due.onTrial(6)
            : state == 6 ? Due.confirmed(6) : Due.booted(5);
        x.make(7, 2, 1, 3);
        if (state == 2 || state == 3) {
            Due.offer(x, 7, 2, 1, 3);
            Due.blocks(x, 0, state == 3 ? 2 : 1);
        }
        if (state == 7) {
            Due.down(x);
        }
        if (state == 8) {
            Due.turnRecords(x);
        }
        return x;
    }

    /** Promise 20, of Terms 5: "DOWN, UNKNOWN, OUTSIDE, STATE, ROOM, BAD are told by calls that do nothing else (but that what takes the tape uses it up)" */
    private static void refusedCallsDoNothingElse() {
        int[] arguments = {-1, 0, 1, 3, 4, 64, 101, 1001};
        int refused = 0;
        for (int at = 0; at < 9 * 19 * 8 * 2; at++) {
            TwoSlots x = inState(at % 9);
            int method = at / 9 % 19;
            int a = arguments[at / 9 / 19 % 8];
            boolean packed = at / 9 / 19 / 8 == 1;
            x.pack(packed ? 0 : 99);
            String before = Due.look(x);
            int answer = call(x, method, a, a, 1, 0);
            if (answer <= TwoSlots.DOWN && answer >= TwoSlots.BAD) {
                refused++;
                boolean usedUp = packed && answer == TwoSlots.BAD && method != 5;
                Due.is("count(7) behind call " + method + " in state " + at % 9, x.count(7), packed && !usedUp ? 64 : 0);
                x.pack(packed ? 0 : 99);
                String behind = Due.look(x);
                // What was offered is gone behind a finish() that is BAD; none of these is.
                Due.is("call " + method + " with " + a + " in state " + at % 9 + ", answering " + answer, behind, before);
            }
        }
        Due.is("many calls were refused", refused > 500 ? 1 : 0, 1);
    }

    /** Promise 20, of Terms 5: "of several the first one in the order in which a call names them.": ROOM is named by none. */
    private static void noCallTellsRoom() {
        for (int at = 0; at < 9 * 19 * 16; at++) {
            int a = EDGES[at / 9 / 19 % 16];
            int answer = call(inState(at % 9), at / 9 % 19, a, a, a, a);
            Due.is("call " + at / 9 % 19 + " with " + a + " in state " + at % 9 + " tells ROOM", answer == TwoSlots.ROOM ? 1 : 0, 0);
        }
    }
}
