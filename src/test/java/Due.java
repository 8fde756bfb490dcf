/** What the tests of the project share: telling wrong answers, and runs of calls that many of them need. */
final class Due {
    private static final int MOST_TOLD = 40;
    private static int asked = 0;
    private static int wrong = 0;

    private Due() {
    }

    static void is(String call, long got, long want) {
        is(call, Long.toString(got), Long.toString(want));
    }

    static void is(String call, String got, String want) {
        asked++;
        if (!got.equals(want)) {
            wrong++;
            if (wrong <= MOST_TOLD) {
                System.out.println(call + " answered " + got + ", due is " + want);
            }
        }
    }

    static void end() {
        System.out.println(asked + " answers, " + wrong + " not as due");
        if (wrong != 0 || asked == 0) {
            System.exit(1);
        }
    }

    /** A new object whose slot 0 runs. */
    static TwoSlots booted(int version) {
        TwoSlots x = new TwoSlots(version, 0, 77L);
        is("boot() of a new object", x.boot(), 0);
        return x;
    }

    /** Makes an image and offers its header: what offer() answers. */
    static int offer(TwoSlots x, int version, int size, int key, int seed) {
        x.make(version, size, key, seed);
        x.pack(TwoSlots.NONE);
        return x.offer();
    }

    /** The blocks of what the maker has, up to a bound: what the last block() answers. */
    static int blocks(TwoSlots x, int from, int to) {
        int answer = TwoSlots.NONE;
        for (int i = from; i < to; i++) {
            x.pack(i);
            answer = x.block();
        }
        return answer;
    }

    /** A whole update: what finish() answers. */
    static int update(TwoSlots x, int version, int size, int key, int seed) {
        offer(x, version, size, key, seed);
        blocks(x, 0, size);
        return x.finish();
    }

    /** An update that is booted and confirmed: what confirm() answers. */
    static int settle(TwoSlots x, int version, int size, int key, int seed) {
        update(x, version, size, key, seed);
        x.boot();
        return x.confirm();
    }

    /** Power goes now: the next write is an append of the log, of which nothing is done. */
    static void down(TwoSlots x) {
        x.cut(0, 0);
        x.make(-1, 1, 0, 0);
        x.pack(TwoSlots.NONE);
        is("offer() with power cut", x.offer(), TwoSlots.LOST);
    }

    /** All that calls tell without changing anything, but for the bytes of the flash: 29 calls. */
    static String look(TwoSlots x) {
        StringBuilder told = new StringBuilder();
        told.append("runs ").append(x.running()).append(" watchdog ").append(x.watchdog()).append(" record");
        for (int what = 0; what < 8; what++) {
            told.append(' ').append(x.record(what));
        }
        for (int s = 0; s < 2; s++) {
            told.append(" slot");
            for (int what = 0; what < 5; what++) {
                told.append(' ').append(x.slot(s, what));
            }
        }
        told.append(" count");
        for (int what = 0; what < 9; what++) {
            told.append(' ').append(x.count(what));
        }
        return told.toString();
    }

    /** Bytes of a sector as hexadecimal digits. */
    static String bytes(TwoSlots x, int sector, int from, int length) {
        StringBuilder digits = new StringBuilder();
        for (int i = from; i < from + length; i++) {
            digits.append(String.format("%02x", x.octet(sector, i)));
        }
        return digits.toString();
    }

    /** The bytes of the tape as hexadecimal digits: altered with 0, each stays what it is. */
    static String tape(TwoSlots x) {
        StringBuilder digits = new StringBuilder();
        for (int i = 0; i < x.count(7); i++) {
            digits.append(String.format("%02x", x.alter(i, 0)));
        }
        return digits.toString();
    }
}
