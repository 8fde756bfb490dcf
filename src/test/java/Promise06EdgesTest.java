/** The boundary cases of promise 6: block. */
public final class Promise06EdgesTest {
    public static void main(String[] args) {
        howManyAreAwaited();
        theSectorIsErasedAndProgrammed();
        fourLines();
        theLargestBodyOfSlotOne();
        theLargestBodyOfSlotZero();
        nothingIsOffered();
        noneIsAwaited();
        noBytes();
        aBlockIsUsedUp();
        anyBytesAreABlock();
        goesOnWithoutARecord();
        downComesFirst();
        stateComesBeforeBad();
        refusedOnesChangeNothing();
        lostAtEachWrite();
        Due.end();
    }

    /** Promise 6: "how many are awaited still" */
    private static void howManyAreAwaited() {
        int[] sizes = {1, 2, 30};
        for (int size : sizes) {
            TwoSlots x = Due.booted(5);
            Due.offer(x, 6, size, 0, 0);
            for (int i = 0; i < size; i++) {
                Due.is("block " + i + " of " + size, Due.blocks(x, i, i + 1), size - 1 - i);
                Due.is("count(8)", x.count(8), size - 1 - i);
            }
        }
    }

    /** Promise 6, of Terms 5: "A BLOCK comes: its sector is erased, and its four lines are programmed." */
    private static void theSectorIsErasedAndProgrammed() {
        TwoSlots x = Due.booted(5);
        for (int j = 0; j < 64; j++) {
            x.rot(34, j, 255);
        }
        Due.offer(x, 6, 1, 0, 192);
        Due.is("count(0) before", x.count(0), 1);
        Due.is("block()", Due.blocks(x, 0, 1), 0);
        for (int j = 0; j < 64; j++) {
            Due.is("octet(34, " + j + ")", x.octet(34, j), 192 + j);
        }
        Due.is("count(0)", x.count(0), 6);
        Due.is("count(1)", x.count(1), 2);
    }

    /** Promise 6, of Terms 1: "A LINE is 16 bytes of a sector, at 0, 16, 32 or 48" */
    private static void fourLines() {
        for (int line = 0; line < 4; line++) {
            TwoSlots x = Due.booted(5);
            Due.offer(x, 6, 1, 0, 100);
            x.cut(1 + line, 1);
            Due.is("block()", Due.blocks(x, 0, 1), TwoSlots.LOST);
            Due.is("the first byte of line " + line, x.octet(34, 16 * line), 100 + 16 * line);
            Due.is("the second byte of line " + line, x.octet(34, 16 * line + 1), 255);
            Due.is("the byte before line " + line, x.octet(34, Math.max(16 * line - 1, 0)), 100 + Math.max(16 * line - 1, 0));
        }
    }

    /** Promise 6, of Terms 1: "33 .. 63 SLOT 1: of each the first one the HEADER, 30 the BODY (block i is its sector i)." */
    private static void theLargestBodyOfSlotOne() {
        TwoSlots x = Due.booted(5);
        Due.is("offer()", Due.offer(x, 6, 30, 0, 11), 1);
        for (int i = 0; i < 30; i++) {
            Due.blocks(x, i, i + 1);
            Due.is("first byte of block " + i, x.octet(34 + i, 0), 11 + 5 * i);
            Due.is("last byte of block " + i, x.octet(34 + i, 63), 11 + 5 * i + 63);
            Due.is("the sector behind it", i == 29 ? 255 : x.octet(35 + i, 0), 255);
        }
        Due.is("octet(33, 63): the header stays erased", x.octet(33, 63), 255);
        Due.is("octet(0, 15): the log stays", x.octet(0, 15), 90);
    }

    /** Promise 6, of Terms 1: "SECTORS 0, 1 are the LOG, 2 .. 32 SLOT 0" */
    private static void theLargestBodyOfSlotZero() {
        TwoSlots x = Due.confirmed(6);
        Due.is("offer()", Due.offer(x, 6, 30, 0, 11), 0);
        for (int i = 0; i < 30; i++) {
            Due.blocks(x, i, i + 1);
            Due.is("first byte of block " + i, x.octet(3 + i, 0), 11 + 5 * i);
            Due.is("last byte of block " + i, x.octet(3 + i, 63), 11 + 5 * i + 63);
        }
        Due.is("octet(33, 0): the header of slot 1 stays", x.octet(33, 0), 84);
        Due.is("octet(2, 0): the header is erased", x.octet(2, 0), 255);
        Due.is("slot(1, 0)", x.slot(1, 0), 1);
    }

    /** Promise 6: "STATE (nothing is offered" and "the tape stays" */
    private static void nothingIsOffered() {
        TwoSlots x = Due.booted(5);
        x.make(6, 1, 0, 0);
        x.pack(0);
        Due.is("block() before any offer", x.block(), TwoSlots.STATE);
        Due.is("count(7)", x.count(7), 64);
        Due.is("count(0)", x.count(0), 0);
        x = Due.updated(6);
        x.pack(0);
        Due.is("block() behind finish()", x.block(), TwoSlots.STATE);
        Due.is("count(7)", x.count(7), 64);
        x = Due.booted(5);
        Due.offer(x, 6, 1, 0, 0);
        x.boot();
        x.pack(0);
        Due.is("block() behind boot()", x.block(), TwoSlots.STATE);
    }

    /** Promise 6: "or none is awaited; the tape stays" */
    private static void noneIsAwaited() {
        TwoSlots x = Due.booted(5);
        Due.offer(x, 6, 1, 0, 0);
        Due.blocks(x, 0, 1);
        x.pack(0);
        Due.is("block() behind the last one", x.block(), TwoSlots.STATE);
        Due.is("count(7)", x.count(7), 64);
        Due.is("count(0)", x.count(0), 6);
        Due.is("octet(35, 0)", x.octet(35, 0), 255);
        Due.is("finish(): it is offered still", x.finish(), 1);
    }

    /** Promise 6: "BAD (no 64 bytes)" */
    private static void noBytes() {
        TwoSlots x = Due.booted(5);
        Due.offer(x, 6, 1, 0, 0);
        x.rot(34, 0, 255);
        String before = Due.look(x);
        Due.is("block() without a tape", x.block(), TwoSlots.BAD);
        Due.is("nothing is other", Due.look(x), before);
        Due.is("octet(34, 0)", x.octet(34, 0), 0);
        Due.is("block() with one", Due.blocks(x, 0, 1), 0);
        Due.is("finish()", x.finish(), 1);
    }

    /** Promise 6, of Terms 5: "what takes the tape uses it up" */
    private static void aBlockIsUsedUp() {
        TwoSlots x = Due.booted(5);
        Due.offer(x, 6, 2, 0, 0);
        Due.is("block()", Due.blocks(x, 0, 1), 1);
        Due.is("count(7)", x.count(7), 0);
        Due.is("block() once more", x.block(), TwoSlots.BAD);
        Due.is("count(8)", x.count(8), 1);
    }

    /** Promise 6: "The tape is the next block": whatever is on it, a header too. */
    private static void anyBytesAreABlock() {
        TwoSlots x = Due.booted(5);
        Due.offer(x, 6, 2, 0, 0);
        x.pack(TwoSlots.NONE);
        Due.is("block() of a header", x.block(), 1);
        Due.is("octet(34, 0)", x.octet(34, 0), 84);
        Due.is("block() of block 0 as the second one", Due.blocks(x, 0, 1), 0);
        Due.is("octet(35, 0)", x.octet(35, 0), 0);
        Due.is("finish()", x.finish(), TwoSlots.BAD);
    }

    /** Promise 6, of Terms 2: "and offer(), finish(), confirm(), revoke() are STATE": block() is not among them. */
    private static void goesOnWithoutARecord() {
        TwoSlots x = Due.booted(5);
        Due.offer(x, 6, 1, 0, 0);
        Due.turnRecords(x);
        Due.is("block()", Due.blocks(x, 0, 1), 0);
        Due.turnRecords(x);
        Due.is("finish()", x.finish(), 1);
    }

    /** Promise 6, of Terms 5: "of several the first one in the order in which a call names them", and "how many are awaited still. DOWN, STATE (nothing is offered, or none is awaited; the tape stays), BAD" */
    private static void downComesFirst() {
        TwoSlots x = Due.booted(5);
        Due.down(x);
        Due.is("block(): DOWN, nothing is offered, and there is no tape", x.block(), TwoSlots.DOWN);
    }

    /** Promise 6, of Terms 5: "of several the first one in the order in which a call names them" */
    private static void stateComesBeforeBad() {
        TwoSlots x = Due.booted(5);
        Due.is("block(): nothing is offered, and there is no tape", x.block(), TwoSlots.STATE);
        Due.offer(x, 6, 1, 0, 0);
        Due.blocks(x, 0, 1);
        Due.is("block(): none is awaited, and there is no tape", x.block(), TwoSlots.STATE);
    }

    /** Promise 6, of Terms 5: "are told by calls that do nothing else" */
    private static void refusedOnesChangeNothing() {
        TwoSlots x = Due.booted(5);
        Due.offer(x, 6, 1, 0, 0);
        Due.blocks(x, 0, 1);
        x.pack(0);
        String before = Due.look(x);
        Due.is("block() when none is awaited", x.block(), TwoSlots.STATE);
        Due.is("nothing is other", Due.look(x), before);
        Due.down(x);
        x.pack(0);
        before = Due.look(x);
        Due.is("block() while DOWN", x.block(), TwoSlots.DOWN);
        Due.is("nothing is other while DOWN", Due.look(x), before);
    }

    /** Promise 6: "BAD (no 64 bytes), LOST." */
    private static void lostAtEachWrite() {
        for (int n = 0; n < 5; n++) {
            TwoSlots x = Due.booted(5);
            for (int j = 0; j < 64; j++) {
                x.rot(34, j, 255);
            }
            Due.offer(x, 6, 1, 0, 100);
            x.cut(n, 18);
            Due.is("block() with cut(" + n + ", 18)", Due.blocks(x, 0, 1), TwoSlots.LOST);
            int programmed = n == 0 ? 0 : 16 * (n - 1) + 2;
            for (int j = 0; j < 64; j++) {
                int want = j < programmed ? 100 + j : n > 0 || j < 18 ? 255 : 0;
                Due.is("octet(34, " + j + ") with cut(" + n + ", 18)", x.octet(34, j), want);
            }
            Due.is("count(0)", x.count(0), 2 + n);
            Due.is("count(8)", x.count(8), 0);
            x.start();
            x.pack(0);
            Due.is("block() behind start()", x.block(), TwoSlots.STATE);
        }
    }
}
