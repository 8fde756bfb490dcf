import java.util.ArrayList;
import java.util.Arrays;
import java.util.List;

/**
 * The document once more, written to be read beside it and not for the device: records are parsed anew for
 * each question, a write that power takes is an exception, and nothing is shared with TwoSlots.
 */
final class Model {
    static final int NONE = -1, DOWN = -100, UNKNOWN = -101, OUTSIDE = -102, STATE = -103, BAD = -105, LOST = -106;

    private static final class PowerGone extends RuntimeException {
        private static final long serialVersionUID = 1L;
    }

    private record Place(int sector, int line) {
    }

    private final long key;
    private final int[][] flash = new int[64][64];
    private final int[] counts = new int[7];
    private int cutIn = NONE;
    private int cutTear;
    private boolean down;
    private int[] tape = {};
    private int[] maker;
    private int[] offered;
    private int offeredSlot;
    private int blocksCome;
    private int runs = NONE;
    private boolean onTrial;
    private int ticksGone;

    Model(int version, int size, long key) {
        this.key = key;
        for (int[] sector : flash) {
            Arrays.fill(sector, 255);
        }
        int blocks = 1 + (size % 30 + 30) % 30;
        List<int[]> body = new ArrayList<>();
        for (int i = 0; i < blocks; i++) {
            for (int j = 0; j < 64; j++) {
                flash[3 + i][j] = (i + 3 * j) % 256;
            }
            body.add(flash[3 + i]);
        }
        flash[2] = header(version, blocks, 0, body);
        int[] record = {0, 0, 0, 1, 0, 255, 0, 0, version >>> 24, version >>> 16 & 255, version >>> 8 & 255, version & 255, 0, 0, 0, 90};
        System.arraycopy(record, 0, flash[0], 0, 16);
    }

    /** The call of this number, in the order of the document's face. */
    int call(int method, int a, int b, int c, int d) {
        try {
            return answer(method, a, b, c, d);
        } catch (PowerGone gone) {
            down = true;
            runs = NONE;
            onTrial = false;
            offered = null;
            tape = new int[0];
            return LOST;
        }
    }

    private int answer(int method, int a, int b, int c, int d) {
        switch (method) {
            case 0: return make(a, b, c, d);
            case 1: return pack(a);
            case 2: return alter(a, b);
            case 3: return down ? DOWN : offer();
            case 4: return down ? DOWN : block();
            case 5: return down ? DOWN : finish();
            case 6: return down ? DOWN : boot();
            case 7: return down ? DOWN : confirm();
            case 8: return down ? DOWN : tick(a);
            case 9: return down ? DOWN : revoke(a);
            case 10: return down ? DOWN : cut(a, b);
            case 11: return start();
            case 12: return within(a, 0, 63) && within(b, 0, 63) ? flash[a][b] ^= c & 255 : UNKNOWN;
            case 13: return within(a, 0, 63) && within(b, 0, 63) ? flash[a][b] : UNKNOWN;
            case 14: return down ? DOWN : runs;
            case 15: return down ? DOWN : onTrial ? 20 - ticksGone : 0;
            case 16: return slot(a, b);
            case 17: return record(a);
            default: return count(a);
        }
    }

    private static boolean within(int n, int least, int most) {
        return n >= least && n <= most;
    }

    // ---- flash

    private void write(boolean erase, int sector, int from, int[] wanted) {
        counts[0]++;
        counts[1] += erase ? 1 : 0;
        int length = erase ? 64 : 16;
        boolean goes = cutIn == 0;
        cutIn = Math.max(cutIn - 1, NONE);
        int done = goes ? cutTear % length : length;
        for (int i = 0; i < done; i++) {
            flash[sector][from + i] = erase ? 255 : flash[sector][from + i] & wanted[i];
        }
        if (goes) {
            throw new PowerGone();
        }
    }

    private void programSector(int sector, int[] wanted) {
        for (int from = 0; from < 64; from += 16) {
            write(false, sector, from, Arrays.copyOfRange(wanted, from, from + 16));
        }
    }

    // ---- log

    private int[] lineAt(Place p) {
        return Arrays.copyOfRange(flash[p.sector()], 16 * p.line(), 16 * p.line() + 16);
    }

    private static boolean whole(int[] r) {
        return r[0] == 0 && r[15] == 90 && r[4] <= 1 && (r[5] <= 1 || r[5] == 255) && r[6] <= 3;
    }

    private Place newest() {
        Place best = null;
        for (int sector = 1; sector >= 0; sector--) {
            for (int line = 3; line >= 0; line--) {
                Place p = new Place(sector, line);
                if (whole(lineAt(p)) && (best == null || number(lineAt(p), 0) >= number(lineAt(best), 0))) {
                    best = p;
                }
            }
        }
        return best;
    }

    private static long number(int[] bytes, int at) {
        return ((long) bytes[at] << 24) + (bytes[at + 1] << 16) + (bytes[at + 2] << 8) + bytes[at + 3];
    }

    private static void put(int[] bytes, int at, long number) {
        for (int i = 3; i >= 0; i--) {
            bytes[at + i] = (int) (number & 255);
            number >>= 8;
        }
    }

    private int[] now() {
        return lineAt(newest());
    }

    private void append(int[] told) {
        int[] record = told.clone();
        put(record, 0, number(now(), 0) + 1);
        record[12] = 0;
        record[13] = 0;
        record[14] = 0;
        Place p = newest();
        Place free = null;
        for (int line = 3; line > p.line(); line--) {
            Place q = new Place(p.sector(), line);
            free = Arrays.stream(lineAt(q)).allMatch(x -> x == 255) ? q : free;
        }
        if (free == null) {
            free = new Place(1 - p.sector(), 0);
            write(true, free.sector(), 0, null);
        }
        write(false, free.sector(), 16 * free.line(), record);
        counts[2]++;
    }

    private long counter() {
        return newest() == null ? 0 : number(now(), 8);
    }

    // ---- images

    private static long digest(long from, int[] bytes, int length) {
        long it = from;
        for (int i = 0; i < length; i++) {
            it = it ^ bytes[i];
            it = (it << 13) | (it >>> 51);
            it = it * 0x9E3779B97F4A7C15L;
        }
        return it;
    }

    private static long bodyDigest(long version, List<int[]> body) {
        long it = version;
        for (int[] block : body) {
            it = digest(it, block, 64);
        }
        return it;
    }

    private List<int[]> bodyOf(int slot, int size) {
        return Arrays.asList(flash).subList(3 + 31 * slot, 3 + 31 * slot + size);
    }

    private long keyNumber(int k) {
        return key ^ 0x100000001B3L * k;
    }

    private int[] header(int version, int size, int k, List<int[]> body) {
        int[] h = new int[64];
        int[] magic = {'T', 'W', 'O', 'S'};
        System.arraycopy(magic, 0, h, 0, 4);
        put(h, 4, version);
        put(h, 8, size);
        h[12] = k;
        long told = bodyDigest(number(h, 4), body);
        put(h, 20, told >> 32);
        put(h, 24, told);
        long seal = digest(keyNumber(k), h, 56);
        put(h, 56, seal >> 32);
        put(h, 60, seal);
        return h;
    }

    /** Right, if it is what a header of its version, size, key and digest must be, byte for byte. */
    private boolean right(int[] h) {
        if (!within((int) number(h, 8), 1, 30) || h[12] > 3) {
            return false;
        }
        int[] must = header((int) number(h, 4), (int) number(h, 8), h[12], List.of());
        System.arraycopy(h, 20, must, 20, 8);
        long seal = digest(keyNumber(h[12]), must, 56);
        put(must, 56, seal >> 32);
        put(must, 60, seal);
        boolean revoked = newest() != null && (now()[7] & 1 << h[12]) != 0;
        return Arrays.equals(h, must) && !revoked;
    }

    private boolean digestIsRight(int[] h, int slot) {
        long told = bodyDigest(number(h, 4), bodyOf(slot, (int) number(h, 8)));
        return number(h, 20) == (told >>> 32) && number(h, 24) == (told & 0xFFFFFFFFL);
    }

    private boolean good(int slot) {
        int[] h = flash[2 + 31 * slot];
        return right(h) && number(h, 4) >= counter() && digestIsRight(h, slot);
    }

    // ---- calls

    private int make(int version, int size, int k, int seed) {
        if (!within(size, 1, 30) || !within(k, 0, 3)) {
            return OUTSIDE;
        }
        maker = new int[] {version, size, k, seed};
        return 1;
    }

    private int[] makersBlock(int i) {
        int[] block = new int[64];
        for (int j = 0; j < 64; j++) {
            block[j] = (maker[3] + 5 * i + j) & 255;
        }
        return block;
    }

    private int pack(int i) {
        if (maker == null || !within(i, -1, maker[1] - 1)) {
            return UNKNOWN;
        }
        List<int[]> body = new ArrayList<>();
        for (int k = 0; k < maker[1]; k++) {
            body.add(makersBlock(k));
        }
        tape = i == NONE ? header(maker[0], maker[1], maker[2], body) : body.get(i);
        return 64;
    }

    private int alter(int i, int mask) {
        return within(i, 0, tape.length - 1) ? tape[i] ^= mask & 255 : UNKNOWN;
    }

    private int[] takeTape() {
        int[] taken = tape;
        tape = new int[0];
        return taken;
    }

    private int offer() {
        if (runs == NONE || onTrial || newest() == null) {
            return STATE;
        }
        int[] h = takeTape();
        if (h.length != 64 || !right(h) || number(h, 4) < counter()) {
            return BAD;
        }
        int slot = 1 - now()[4];
        write(true, 2 + 31 * slot, 0, null);
        offered = h;
        offeredSlot = slot;
        blocksCome = 0;
        return slot;
    }

    private int awaited() {
        return offered == null ? 0 : (int) number(offered, 8) - blocksCome;
    }

    private int block() {
        if (awaited() == 0) {
            return STATE;
        }
        int[] block = takeTape();
        if (block.length != 64) {
            return BAD;
        }
        int sector = 3 + 31 * offeredSlot + blocksCome;
        write(true, sector, 0, null);
        programSector(sector, block);
        blocksCome++;
        return awaited();
    }

    private int finish() {
        if (offered == null || awaited() > 0 || newest() == null) {
            return STATE;
        }
        int[] h = offered;
        if (!digestIsRight(h, offeredSlot)) {
            offered = null;
            return BAD;
        }
        programSector(2 + 31 * offeredSlot, h);
        int[] told = now();
        told[5] = offeredSlot;
        told[6] = 3;
        append(told);
        offered = null;
        counts[6]++;
        return offeredSlot;
    }

    private int boot() {
        counts[3]++;
        offered = null;
        onTrial = false;
        runs = NONE;
        if (newest() == null) {
            return NONE;
        }
        int[] told = now();
        if (told[5] != 255 && told[6] > 0 && good(told[5])) {
            told[6]--;
            append(told);
            counts[4]++;
            onTrial = true;
            ticksGone = 0;
            runs = told[5];
            return runs;
        }
        if (told[5] != 255) {
            told[5] = 255;
            told[6] = 0;
            append(told);
        }
        int active = now()[4];
        if (good(active)) {
            runs = active;
        } else if (good(1 - active)) {
            told = now();
            told[4] = 1 - active;
            append(told);
            runs = 1 - active;
        }
        return runs;
    }

    private int confirm() {
        if (!onTrial || newest() == null) {
            return STATE;
        }
        int[] told = now();
        told[4] = runs;
        told[5] = 255;
        told[6] = 0;
        put(told, 8, Math.max(number(told, 8), number(flash[2 + 31 * runs], 4)));
        append(told);
        onTrial = false;
        return (int) counter();
    }

    private int tick(int n) {
        if (!within(n, 1, 100)) {
            return OUTSIDE;
        }
        int before = counts[5];
        for (int i = 0; i < n; i++) {
            ticksGone++;
            if (onTrial && ticksGone == 20) {
                counts[5]++;
                boot();
            }
        }
        return counts[5] - before;
    }

    private int revoke(int k) {
        if (!within(k, 0, 3)) {
            return UNKNOWN;
        }
        if (runs == NONE || onTrial || offered != null || newest() == null || now()[5] != 255 || flash[2 + 31 * runs][12] == k) {
            return STATE;
        }
        int[] told = now();
        if ((told[7] & 1 << k) != 0) {
            return 0;
        }
        told[7] += 1 << k;
        append(told);
        return 1;
    }

    private int cut(int n, int tear) {
        if (!within(n, -1, 1000) || !within(tear, 0, 63)) {
            return OUTSIDE;
        }
        cutIn = n;
        cutTear = tear;
        return 1;
    }

    private int start() {
        if (!down) {
            return STATE;
        }
        down = false;
        cutIn = NONE;
        return 1;
    }

    private int slot(int s, int what) {
        if (!within(s, 0, 1)) {
            return UNKNOWN;
        }
        if (!within(what, 0, 4)) {
            return OUTSIDE;
        }
        int[] h = flash[2 + 31 * s];
        int[] told = {good(s) ? 1 : 0, 1, (int) number(h, 4), (int) number(h, 8), h[12]};
        return right(h) ? told[what] : 0;
    }

    private int record(int what) {
        if (!within(what, 0, 7)) {
            return OUTSIDE;
        }
        if (newest() == null) {
            return NONE;
        }
        int[] r = now();
        int[] told = {(int) number(r, 0), r[4], r[5] == 255 ? NONE : r[5], r[6], r[7], (int) number(r, 8), newest().sector(), newest().line()};
        return told[what];
    }

    private int count(int what) {
        if (!within(what, 0, 8)) {
            return OUTSIDE;
        }
        return what == 7 ? tape.length : what == 8 ? awaited() : counts[what];
    }
}
