/** What the tests of the project share: telling wrong answers, and runs of calls that many of them need. */
final class Due {
    private static final int MOST_TOLD = 40;
    private static int asked = 0;
    private static int wrong = 0;

    private Due() {
    }

    static void is(String call, long got, long want) {
        is(call, Long.toString(got), Long.toString(want));
    }

    static void is(String call, String got, String want) {
        asked++;
        if (!got.equals(want)) {
            wrong++;
            if (wrong <= MOST_TOLD) {
                System.out.println(place() + ": " + call + " answered " + got + ", due is " + want);
            }
        }
    }

    /** Where in a test the answer was asked for. */
    private static String place() {
        return StackWalker.getInstance().walk(frames -> frames.filter(f -> !f.getClassName().equals("Due"))
            .findFirst().map(f -> f.getClassName() + "." + f.getMethodName() + ", line " + f.getLineNumber()).orElse(""));
    }

    static void end() {
        System.out.println(asked + " answers, " + wrong + " not as due");
        if (wrong != 0 || asked == 0) {
            System.exit(1);
        }
    }

    /** A new object whose slot 0 runs. */
    static TwoSlots booted(int version) {
        TwoSlots x = new TwoSlots(version, 0, 77L);
        is("boot() of a new object", x.boot(), 0);
        return x;
    }

    /** Makes an image and offers its header: what offer() answers. */
    static int offer(TwoSlots x, int version, int size, int key, int seed) {
        x.make(version, size, key, seed);
        x.pack(TwoSlots.NONE);
        return x.offer();
    }

    /** The blocks of what the maker has, up to a bound: what the last block() answers. */
    static int blocks(TwoSlots x, int from, int to) {
        int answer = TwoSlots.NONE;
        for (int i = from; i < to; i++) {
            x.pack(i);
            answer = x.block();
        }
        return answer;
    }

    /** A whole update: what finish() answers. */
    static int update(TwoSlots x, int version, int size, int key, int seed) {
        offer(x, version, size, key, seed);
        blocks(x, 0, size);
        return x.finish();
    }

    /** An update that is booted and confirmed: what confirm() answers. */
    static int settle(TwoSlots x, int version, int size, int key, int seed) {
        update(x, version, size, key, seed);
        x.boot();
        return x.confirm();
    }

    /** An object of version 5 with an update of one block, key 1, in slot 1: it is to be tried three times. */
    static TwoSlots updated(int version) {
        TwoSlots x = booted(5);
        is("finish() of an update", update(x, version, 1, 1, 3), 1);
        return x;
    }

    /** The same, and slot 1 runs on trial. */
    static TwoSlots onTrial(int version) {
        TwoSlots x = updated(version);
        is("boot() on trial", x.boot(), 1);
        return x;
    }

    /** Slot 1 is active, with this version as counter; slot 0 has version 5. */
    static TwoSlots confirmed(int version) {
        TwoSlots x = onTrial(version);
        is("confirm()", x.confirm(), version);
        return x;
    }

    /** A byte of the flash becomes this. */
    static void poke(TwoSlots x, int sector, int i, int value) {
        is("rot() to " + value, x.rot(sector, i, x.octet(sector, i) ^ value), value);
    }

    /** A byte of the newest record becomes this. */
    static void pokeRecord(TwoSlots x, int i, int value) {
        poke(x, x.record(6), 16 * x.record(7) + i, value);
    }

    /** The newest record's serial becomes this. */
    static void pokeSerial(TwoSlots x, int serial) {
        int at = 16 * x.record(7);
        int sector = x.record(6);
        for (int i = 0; i < 4; i++) {
            poke(x, sector, at + i, serial >>> 24 - 8 * i & 255);
        }
        is("record(0)", x.record(0), serial);
    }

    /** The last byte of each record is turned round: none is whole any more, or each is again. */
    static void turnRecords(TwoSlots x) {
        for (int i = 15; i < 128; i += 16) {
            int mark = x.octet(i / 64, i % 64);
            if (mark == 90 || mark == (90 ^ 255)) {
                x.rot(i / 64, i % 64, 255);
            }
        }
    }

    static long digest(long from, int[] bytes) {
        long it = from;
        for (int b : bytes) {
            long mixed = it ^ b;
            it = (mixed << 13 | mixed >>> 51) * 0x9E3779B97F4A7C15L;
        }
        return it;
    }

    /** The tape's seal becomes the right one of its 56 bytes before it, by the key that they name. */
    static void reseal(TwoSlots x, long key) {
        int[] bytes = new int[56];
        for (int i = 0; i < 56; i++) {
            bytes[i] = x.alter(i, 0);
        }
        long seal = digest(key ^ bytes[12] * 0x100000001B3L, bytes);
        for (int i = 56; i < 64; i++) {
            x.alter(i, x.alter(i, 0) ^ (int) (seal >>> 8 * (63 - i)) & 255);
        }
    }

    /** Power goes now: the next write is an erase, of which nothing is done. */
    static void down(TwoSlots x) {
        x.cut(0, 0);
        x.make(-1, 1, 0, 0);
        x.pack(TwoSlots.NONE);
        is("offer() with power cut", x.offer(), TwoSlots.LOST);
    }

    /** All that calls tell without changing anything, but for the bytes of the flash: 29 calls. */
    static String look(TwoSlots x) {
        StringBuilder told = new StringBuilder();
        told.append("runs ").append(x.running()).append(" watchdog ").append(x.watchdog()).append(" record");
        for (int what = 0; what < 8; what++) {
            told.append(' ').append(x.record(what));
        }
        for (int s = 0; s < 2; s++) {
            told.append(" slot");
            for (int what = 0; what < 5; what++) {
                told.append(' ').append(x.slot(s, what));
            }
        }
        told.append(" count");
        for (int what = 0; what < 9; what++) {
            told.append(' ').append(x.count(what));
        }
        return told.toString();
    }

    /** Bytes of a sector as hexadecimal digits. */
    static String bytes(TwoSlots x, int sector, int from, int length) {
        StringBuilder digits = new StringBuilder();
        for (int i = from; i < from + length; i++) {
            digits.append(String.format("%02x", x.octet(sector, i)));
        }
        return digits.toString();
    }

    /** The bytes of the tape as hexadecimal digits: altered with 0, each stays what it is. */
    static String tape(TwoSlots x) {
        StringBuilder digits = new StringBuilder();
        for (int i = 0; i < x.count(7); i++) {
            digits.append(String.format("%02x", x.alter(i, 0)));
        }
        return digits.toString();
    }
}
