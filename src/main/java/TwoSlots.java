import java.util.Arrays;

/**
 * A device that runs one of two slots of a flash and takes sealed images for the other one;
 * ../shared/DOC.md says, in numbered promises, what each call does and answers.
 */
public final class TwoSlots {
    public static final int NONE = -1, DOWN = -100, UNKNOWN = -101, OUTSIDE = -102, STATE = -103, ROOM = -104, BAD = -105, LOST = -106;

    private static final int SECTORS = 64;
    private static final int SECTOR = 64;
    private static final int LINE = 16;
    private static final int LINES = 4;
    private static final int ERASED = 255;

    private static final int LOG_SECTORS = 2;
    private static final int SLOTS = 2;
    private static final int SLOT_SECTORS = 31;
    private static final int MOST_BLOCKS = 30;
    private static final int KEYS = 4;

    private static final int FULL_TRIES = 3;
    private static final int TRIAL_TICKS = 20;
    private static final int MOST_TICKS = 100;
    private static final int MOST_WRITES_AHEAD = 1000;

    private static final long DIGEST_FACTOR = 0x9E3779B97F4A7C15L;
    private static final int DIGEST_TURN = 13;
    private static final long KEY_FACTOR = 0x100000001B3L;

    private final long key;
    private final Flash flash = new Flash();
    private final Log log = new Log(flash);
    private final Maker maker = new Maker();
    private final byte[] tape = new byte[SECTOR];
    private int tapeBytes = 0;

    /** A row to look at headers with: what is in it holds within one call only. */
    private final Header sheet = new Header();

    private final Header offered = new Header();
    private int offeredTo = NONE;
    private int awaited = 0;

    private int runs = NONE;
    /** Above 0 just while what runs is on trial. */
    private int ticksLeft = 0;

    private int boots = 0;
    private int trials = 0;
    private int watchdogs = 0;
    private int updates = 0;

    public TwoSlots(int version, int size, long key) {
        this.key = key;
        int blocks = 1 + Math.floorMod(size, MOST_BLOCKS);
        int body = bodyStart(0);
        for (int i = 0; i < blocks; i++) {
            for (int j = 0; j < SECTOR; j++) {
                putByte(flash.cells, body + i * SECTOR + j, i + 3 * j);
            }
        }
        long told = bodyDigest(0, version, blocks);
        sheet.compose(version, blocks, 0, told, keyNumber(0));
        copySector(sheet.row, 0, flash.cells, headerSector(0) * SECTOR);
        log.layFirst(version);
    }

    public int make(int version, int size, int key, int seed) {
        if (size < 1 || size > MOST_BLOCKS || key < 0 || key >= KEYS) {
            return OUTSIDE;
        }
        maker.version = version;
        maker.size = size;
        maker.key = key;
        maker.seed = seed;
        return 1;
    }

    public int pack(int i) {
        if (i < NONE || i >= maker.size || maker.size == 0) {
            return UNKNOWN;
        }
        if (i == NONE) {
            // The tape serves as the row for the blocks before the header takes its place.
            long told = maker.bodyDigest(tape);
            sheet.compose(maker.version, maker.size, maker.key, told, keyNumber(maker.key));
            copySector(sheet.row, 0, tape, 0);
        } else {
            maker.layBlock(i, tape);
        }
        tapeBytes = SECTOR;
        return tapeBytes;
    }

    public int alter(int i, int mask) {
        if (i < 0 || i >= tapeBytes) {
            return UNKNOWN;
        }
        putByte(tape, i, byteAt(tape, i) ^ mask);
        return byteAt(tape, i);
    }

    public int offer() {
        if (flash.down) {
            return DOWN;
        }
        if (!runsForGood() || log.newest == NONE) {
            return STATE;
        }
        boolean full = tapeBytes == SECTOR;
        tapeBytes = 0;
        copySector(tape, 0, sheet.row, 0);
        if (!full || !isSheetRight() || isBelowCounter(sheet.version())) {
            return BAD;
        }
        int to = otherThan(log.active);
        if (!flash.erase(headerSector(to))) {
            return lose();
        }
        copySector(sheet.row, 0, offered.row, 0);
        offeredTo = to;
        awaited = offered.size();
        return to;
    }

    public int block() {
        if (flash.down) {
            return DOWN;
        }
        if (offeredTo == NONE || awaited == 0) {
            return STATE;
        }
        if (tapeBytes != SECTOR) {
            return BAD;
        }
        tapeBytes = 0;
        int sector = headerSector(offeredTo) + 1 + offered.size() - awaited;
        if (!flash.erase(sector) || !flash.programSector(sector, tape)) {
            return lose();
        }
        awaited--;
        return awaited;
    }

    public int finish() {
        if (flash.down) {
            return DOWN;
        }
        if (offeredTo == NONE || awaited > 0 || log.newest == NONE) {
            return STATE;
        }
        int to = offeredTo;
        if (bodyDigest(to, offered.version(), offered.size()) != offered.bodyDigest()) {
            dropOffer();
            return BAD;
        }
        if (!flash.programSector(headerSector(to), offered.row) || !log.appendTrying(to, FULL_TRIES)) {
            return lose();
        }
        dropOffer();
        updates++;
        return to;
    }

    public int boot() {
        if (flash.down) {
            return DOWN;
        }
        return bootUp();
    }

    public int confirm() {
        if (flash.down) {
            return DOWN;
        }
        if (ticksLeft == 0 || log.newest == NONE) {
            return STATE;
        }
        readHeader(runs);
        int version = sheet.version();
        int counter = isBelowCounter(version) ? log.counter : version;
        if (!log.appendConfirmed(runs, counter)) {
            return lose();
        }
        ticksLeft = 0;
        return log.counter;
    }

    public int tick(int n) {
        if (flash.down) {
            return DOWN;
        }
        if (n < 1 || n > MOST_TICKS) {
            return OUTSIDE;
        }
        int fired = 0;
        for (int i = 0; i < n && ticksLeft > 0; i++) {
            ticksLeft--;
            if (ticksLeft == 0) {
                fired++;
                watchdogs++;
                if (bootUp() == LOST) {
                    return LOST;
                }
            }
        }
        return fired;
    }

    public int revoke(int key) {
        if (flash.down) {
            return DOWN;
        }
        if (key < 0 || key >= KEYS) {
            return UNKNOWN;
        }
        if (!runsForGood() || offeredTo != NONE || log.newest == NONE || log.trying != NONE) {
            return STATE;
        }
        readHeader(runs);
        if (sheet.key() == key) {
            return STATE;
        }
        if (isRevoked(key)) {
            return 0;
        }
        if (!log.appendRevoked(log.revoked | 1 << key)) {
            return lose();
        }
        return 1;
    }

    public int cut(int n, int tear) {
        if (flash.down) {
            return DOWN;
        }
        if (n < NONE || n > MOST_WRITES_AHEAD || tear < 0 || tear >= SECTOR) {
            return OUTSIDE;
        }
        flash.writesAhead = n;
        flash.tear = tear;
        return 1;
    }

    public int start() {
        if (!flash.down) {
            return STATE;
        }
        flash.down = false;
        return 1;
    }

    public int rot(int sector, int i, int mask) {
        if (!isInFlash(sector, i)) {
            return UNKNOWN;
        }
        int at = sector * SECTOR + i;
        putByte(flash.cells, at, byteAt(flash.cells, at) ^ mask);
        log.look();
        return byteAt(flash.cells, at);
    }

    public int octet(int sector, int i) {
        if (!isInFlash(sector, i)) {
            return UNKNOWN;
        }
        return byteAt(flash.cells, sector * SECTOR + i);
    }

    public int running() {
        return flash.down ? DOWN : runs;
    }

    public int watchdog() {
        return flash.down ? DOWN : ticksLeft;
    }

    public int slot(int s, int what) {
        if (s < 0 || s >= SLOTS) {
            return UNKNOWN;
        }
        if (what < 0 || what > 4) {
            return OUTSIDE;
        }
        readHeader(s);
        if (!isSheetRight()) {
            return 0;
        }
        switch (what) {
            case 0:
                return isGood(s) ? 1 : 0;
            case 1:
                return 1;
            case 2:
                return sheet.version();
            case 3:
                return sheet.size();
            default:
                return sheet.key();
        }
    }

    public int record(int what) {
        if (what < 0 || what > 7) {
            return OUTSIDE;
        }
        if (log.newest == NONE) {
            return NONE;
        }
        switch (what) {
            case 0:
                return log.serial;
            case 1:
                return log.active;
            case 2:
                return log.trying;
            case 3:
                return log.tries;
            case 4:
                return log.revoked;
            case 5:
                return log.counter;
            case 6:
                return log.newest / SECTOR;
            default:
                return log.newest % SECTOR / LINE;
        }
    }

    public int count(int what) {
        switch (what) {
            case 0:
                return flash.writes;
            case 1:
                return flash.erases;
            case 2:
                return log.appended;
            case 3:
                return boots;
            case 4:
                return trials;
            case 5:
                return watchdogs;
            case 6:
                return updates;
            case 7:
                return tapeBytes;
            case 8:
                return awaited;
            default:
                return OUTSIDE;
        }
    }

    private int bootUp() {
        boots++;
        runs = NONE;
        ticksLeft = 0;
        dropOffer();
        if (log.newest == NONE) {
            return NONE;
        }
        int tried = log.trying;
        if (tried != NONE && log.tries > 0 && isGood(tried)) {
            return runOnTrial(tried);
        }
        if (tried != NONE && !log.appendTrying(NONE, 0)) {
            return lose();
        }
        return runActive();
    }

    private int runOnTrial(int tried) {
        if (!log.appendTrying(tried, log.tries - 1)) {
            return lose();
        }
        trials++;
        runs = tried;
        ticksLeft = TRIAL_TICKS;
        return runs;
    }

    private int runActive() {
        int active = log.active;
        if (isGood(active)) {
            runs = active;
            return runs;
        }
        int other = otherThan(active);
        if (!isGood(other)) {
            return NONE;
        }
        if (!log.appendActive(other)) {
            return lose();
        }
        runs = other;
        return runs;
    }

    /** What power takes with it; the maker is no part of the device and stays. */
    private int lose() {
        runs = NONE;
        ticksLeft = 0;
        tapeBytes = 0;
        dropOffer();
        return LOST;
    }

    private void dropOffer() {
        offeredTo = NONE;
        awaited = 0;
    }

    private boolean runsForGood() {
        return runs != NONE && ticksLeft == 0;
    }

    private boolean isGood(int s) {
        readHeader(s);
        if (!isSheetRight() || isBelowCounter(sheet.version())) {
            return false;
        }
        return bodyDigest(s, sheet.version(), sheet.size()) == sheet.bodyDigest();
    }

    private void readHeader(int s) {
        copySector(flash.cells, headerSector(s) * SECTOR, sheet.row, 0);
    }

    private boolean isSheetRight() {
        // The form comes first: without it the key may be none that has a number or a bit.
        return sheet.hasForm() && sheet.isSealedWith(keyNumber(sheet.key())) && !isRevoked(sheet.key());
    }

    private boolean isRevoked(int k) {
        return (log.revoked >> k & 1) == 1;
    }

    private boolean isBelowCounter(int version) {
        return Integer.compareUnsigned(version, log.counter) < 0;
    }

    private long keyNumber(int k) {
        return key ^ k * KEY_FACTOR;
    }

    private long bodyDigest(int s, int version, int blocks) {
        int body = bodyStart(s);
        return digest(withoutSign(version), flash.cells, body, body + blocks * SECTOR);
    }

    /** A VERSION has no sign: a body's digest begins with 0 .. 4294967295, never with a number below 0. */
    private static long withoutSign(int version) {
        return version & 0xFFFFFFFFL;
    }

    private static int otherThan(int s) {
        return 1 - s;
    }

    private static int headerSector(int s) {
        return LOG_SECTORS + s * SLOT_SECTORS;
    }

    private static int bodyStart(int s) {
        return (headerSector(s) + 1) * SECTOR;
    }

    private static boolean isInFlash(int sector, int i) {
        return sector >= 0 && sector < SECTORS && i >= 0 && i < SECTOR;
    }

    private static long digest(long from, byte[] row, int begin, int end) {
        long it = from;
        int last = Math.min(end, row.length);
        for (int i = Math.max(begin, 0); i < last; i++) {
            it = Long.rotateLeft(it ^ (row[i] & 255), DIGEST_TURN) * DIGEST_FACTOR;
        }
        return it;
    }

    private static int byteAt(byte[] row, int at) {
        return at >= 0 && at < row.length ? row[at] & 255 : ERASED;
    }

    private static void putByte(byte[] row, int at, int value) {
        if (at >= 0 && at < row.length) {
            row[at] = (byte) value;
        }
    }

    private static long numberAt(byte[] row, int at, int bytes) {
        if (at < 0 || at > row.length - bytes) {
            return 0;
        }
        long number = 0;
        for (int i = 0; i < bytes; i++) {
            number = number << 8 | row[at + i] & 255;
        }
        return number;
    }

    private static void putNumber(byte[] row, int at, int bytes, long number) {
        for (int i = 0; i < bytes; i++) {
            putByte(row, at + i, (int) (number >> 8 * (bytes - 1 - i)));
        }
    }

    private static void copySector(byte[] from, int fromAt, byte[] to, int toAt) {
        for (int i = 0; i < SECTOR; i++) {
            putByte(to, toAt + i, byteAt(from, fromAt + i));
        }
    }

    /** The flash and its power: every write goes through here, so that power may go at any of them. */
    private static final class Flash {
        private final byte[] cells = new byte[SECTORS * SECTOR];
        /** How many writes are done in full before power goes at the next; NONE: it stays. */
        private int writesAhead = NONE;
        private int tear = 0;
        private boolean down = false;
        private int writes = 0;
        private int erases = 0;

        Flash() {
            Arrays.fill(cells, (byte) ERASED);
        }

        /** Whether it was done in full; if not, power went. */
        boolean erase(int sector) {
            erases++;
            int done = bytesOfNextWrite(SECTOR);
            for (int i = 0; i < done; i++) {
                putByte(cells, sector * SECTOR + i, ERASED);
            }
            return !down;
        }

        /** Whether it was done in full; if not, power went. */
        boolean programLine(int at, byte[] wanted, int from) {
            int done = bytesOfNextWrite(LINE);
            for (int i = 0; i < done; i++) {
                putByte(cells, at + i, byteAt(cells, at + i) & byteAt(wanted, from + i));
            }
            return !down;
        }

        /** Line by line from the first on, so that a header's seal comes at the end. */
        boolean programSector(int sector, byte[] wanted) {
            for (int i = 0; i < LINES; i++) {
                if (!programLine(sector * SECTOR + i * LINE, wanted, i * LINE)) {
                    return false;
                }
            }
            return true;
        }

        private int bytesOfNextWrite(int length) {
            writes++;
            if (writesAhead == NONE) {
                return length;
            }
            writesAhead--;
            if (writesAhead != NONE) {
                return length;
            }
            down = true;
            // Both lengths are powers of two: this is the tear modulo the length.
            return tear & length - 1;
        }
    }

    /** The log, and what its newest record tells; without one nothing is revoked and the counter is 0. */
    private static final class Log {
        private static final int SERIAL = 0, ACTIVE = 4, TRYING = 5, TRIES = 6, REVOKED = 7, COUNTER = 8, MARK = 15;
        private static final int WHOLE_MARK = 90;
        private static final int TRYING_NONE = 255;

        private final Flash flash;
        private final byte[] line = new byte[LINE];
        private int appended = 0;

        /** Where the newest record begins; NONE without one. */
        private int newest = NONE;
        private int serial = 0;
        private int active = NONE;
        private int trying = NONE;
        private int tries = 0;
        private int revoked = 0;
        private int counter = 0;

        Log(Flash flash) {
            this.flash = flash;
        }

        /** It is there from the beginning: no write lays it. */
        void layFirst(int firstCounter) {
            compose(0, NONE, 0, 0, firstCounter);
            putNumber(line, SERIAL, 4, 1);
            for (int i = 0; i < LINE; i++) {
                putByte(flash.cells, i, byteAt(line, i));
            }
            look();
        }

        /**
         * Only what lies in the flash tells which record is the newest: this is called whenever the
         * log's sectors may have changed. (One that was just appended need not be whole.)
         */
        void look() {
            newest = NONE;
            serial = 0;
            for (int at = 0; at < LOG_SECTORS * SECTOR; at += LINE) {
                int found = (int) numberAt(flash.cells, at + SERIAL, 4);
                if (isWhole(at) && (newest == NONE || Integer.compareUnsigned(found, serial) > 0)) {
                    newest = at;
                    serial = found;
                }
            }
            boolean any = newest != NONE;
            int tried = any ? byteAt(flash.cells, newest + TRYING) : TRYING_NONE;
            trying = tried == TRYING_NONE ? NONE : tried;
            active = any ? byteAt(flash.cells, newest + ACTIVE) : NONE;
            tries = any ? byteAt(flash.cells, newest + TRIES) : 0;
            revoked = any ? byteAt(flash.cells, newest + REVOKED) : 0;
            counter = any ? (int) numberAt(flash.cells, newest + COUNTER, 4) : 0;
        }

        boolean appendTrying(int slotTried, int triesLeft) {
            return append(active, slotTried, triesLeft, revoked, counter);
        }

        boolean appendActive(int slotActive) {
            return append(slotActive, trying, tries, revoked, counter);
        }

        boolean appendConfirmed(int slotActive, int newCounter) {
            return append(slotActive, NONE, 0, revoked, newCounter);
        }

        boolean appendRevoked(int keysRevoked) {
            return append(active, trying, tries, keysRevoked, counter);
        }

        /** Whether it was done in full; if not, power went. Called only while there is a newest record. */
        private boolean append(int slotActive, int slotTried, int triesLeft, int keysRevoked, int newCounter) {
            compose(slotActive, slotTried, triesLeft, keysRevoked, newCounter);
            putNumber(line, SERIAL, 4, serial + 1);
            int at = blankLineBehindNewest();
            boolean done = true;
            if (at == NONE) {
                int otherSector = otherThan(newest / SECTOR);
                at = otherSector * SECTOR;
                done = flash.erase(otherSector);
            }
            done = done && flash.programLine(at, line, 0);
            if (done) {
                appended++;
            }
            look();
            return done;
        }

        private void compose(int slotActive, int slotTried, int triesLeft, int keysRevoked, int newCounter) {
            Arrays.fill(line, (byte) 0);
            putByte(line, ACTIVE, slotActive);
            putByte(line, TRYING, slotTried == NONE ? TRYING_NONE : slotTried);
            putByte(line, TRIES, triesLeft);
            putByte(line, REVOKED, keysRevoked);
            putNumber(line, COUNTER, 4, newCounter);
            putByte(line, MARK, WHOLE_MARK);
        }

        private int blankLineBehindNewest() {
            int end = (newest / SECTOR + 1) * SECTOR;
            for (int at = newest + LINE; at < end; at += LINE) {
                if (isBlank(at)) {
                    return at;
                }
            }
            return NONE;
        }

        private boolean isBlank(int at) {
            for (int i = 0; i < LINE; i++) {
                if (byteAt(flash.cells, at + i) != ERASED) {
                    return false;
                }
            }
            return true;
        }

        private boolean isWhole(int at) {
            int tried = byteAt(flash.cells, at + TRYING);
            return byteAt(flash.cells, at) == 0
                && byteAt(flash.cells, at + MARK) == WHOLE_MARK
                && byteAt(flash.cells, at + ACTIVE) < SLOTS
                && (tried < SLOTS || tried == TRYING_NONE)
                && byteAt(flash.cells, at + TRIES) <= FULL_TRIES;
        }
    }

    /** A header's 64 bytes. */
    private static final class Header {
        private static final int MAGIC = 0x54574F53;
        private static final int VERSION = 4, SIZE = 8, KEY = 12, GAP = 13, BODY_DIGEST = 20, LONG_GAP = 28, SEAL = 56;

        private final byte[] row = new byte[SECTOR];

        void compose(int version, int blocks, int key, long bodyDigest, long keyNumber) {
            Arrays.fill(row, (byte) 0);
            putNumber(row, 0, 4, MAGIC);
            putNumber(row, VERSION, 4, version);
            putNumber(row, SIZE, 4, blocks);
            putByte(row, KEY, key);
            putNumber(row, BODY_DIGEST, 8, bodyDigest);
            putNumber(row, SEAL, 8, digest(keyNumber, row, 0, SEAL));
        }

        int version() {
            return (int) numberAt(row, VERSION, 4);
        }

        int size() {
            return (int) numberAt(row, SIZE, 4);
        }

        int key() {
            return byteAt(row, KEY);
        }

        long bodyDigest() {
            return numberAt(row, BODY_DIGEST, 8);
        }

        boolean hasForm() {
            return (int) numberAt(row, 0, 4) == MAGIC
                && size() >= 1 && size() <= MOST_BLOCKS
                && key() < KEYS
                && isZero(GAP, BODY_DIGEST)
                && isZero(LONG_GAP, SEAL);
        }

        boolean isSealedWith(long keyNumber) {
            return numberAt(row, SEAL, 8) == digest(keyNumber, row, 0, SEAL);
        }

        private boolean isZero(int begin, int end) {
            for (int i = begin; i < end; i++) {
                if (byteAt(row, i) != 0) {
                    return false;
                }
            }
            return true;
        }
    }

    /** The maker of images; its size is 0 while it has nothing. */
    private static final class Maker {
        private int version = 0;
        private int size = 0;
        private int key = 0;
        private int seed = 0;

        void layBlock(int i, byte[] row) {
            for (int j = 0; j < SECTOR; j++) {
                putByte(row, j, seed + 5 * i + j);
            }
        }

        /** The row takes the blocks one by one, so that no body need be made. */
        long bodyDigest(byte[] row) {
            long it = withoutSign(version);
            for (int i = 0; i < size; i++) {
                layBlock(i, row);
                it = digest(it, row, 0, SECTOR);
            }
            return it;
        }
    }
}
