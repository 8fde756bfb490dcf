/** Promise 1: what a new object is. The headers were worked out outside of Java. */
public final class NewObjectTest {
    private static final String FIRST = "54574f5300000007000000020000000000000000afb0a2724878c241"
        + "00000000000000000000000000000000000000000000000000000000acbe9a8dfb2b2870";
    private static final String UNSIGNED = "54574f53ffffffff0000000600000000000000008d6b7977cf7a42ad"
        + "000000000000000000000000000000000000000000000000000000005f344b84a511069b";
    private static final String LEAST = "54574f5380000000000000020000000000000000336786bd308eaeaf"
        + "000000000000000000000000000000000000000000000000000000003f11224b29e4940c";

    public static void main(String[] args) {
        nothingRunsAndNothingIsCounted();
        headersAndFirstRecord();
        bodyAndErasedRest();
        sizes();
        Due.end();
    }

    private static void nothingRunsAndNothingIsCounted() {
        TwoSlots x = new TwoSlots(7, 1, 0L);
        Due.is("a new object", Due.look(x),
            "runs -1 watchdog 0 record 1 0 -1 0 0 7 0 0 slot 1 1 7 2 0 slot 0 0 0 0 0 count 0 0 0 0 0 0 0 0 0");
        Due.is("pack(-1) of a maker that has nothing", x.pack(TwoSlots.NONE), TwoSlots.UNKNOWN);
        Due.is("pack(0) of a maker that has nothing", x.pack(0), TwoSlots.UNKNOWN);
        Due.is("start() of a new object", x.start(), TwoSlots.STATE);
        Due.is("block() of a new object", x.block(), TwoSlots.STATE);
        Due.is("finish() of a new object", x.finish(), TwoSlots.STATE);
    }

    private static void headersAndFirstRecord() {
        TwoSlots x = new TwoSlots(7, 1, 0L);
        Due.is("header of version 7", Due.bytes(x, 2, 0, 64), FIRST);
        Due.is("first record of version 7", Due.bytes(x, 0, 0, 16), "0000000100ff0000000000070000005a");
        x = new TwoSlots(-1, 35, 0x0123456789ABCDEFL);
        Due.is("header of version -1", Due.bytes(x, 2, 0, 64), UNSIGNED);
        Due.is("first record of version -1", Due.bytes(x, 0, 0, 16), "0000000100ff0000ffffffff0000005a");
        Due.is("slot(0, 0) of version -1", x.slot(0, 0), 1);
        Due.is("slot(0, 2) of version -1", x.slot(0, 2), -1);
        x = new TwoSlots(Integer.MIN_VALUE, 1, 0L);
        Due.is("header of the least version", Due.bytes(x, 2, 0, 64), LEAST);
        Due.is("slot(0, 0) of the least version", x.slot(0, 0), 1);
    }

    private static void bodyAndErasedRest() {
        int blocks = 4;
        for (int sector = 0; sector < 64; sector++) {
            if (sector == 2) {
                continue;
            }
            TwoSlots x = new TwoSlots(3, blocks - 1, 5L);
            for (int j = sector == 0 ? 16 : 0; j < 64; j++) {
                int i = sector - 3;
                int want = i >= 0 && i < blocks ? i + 3 * j & 255 : 255;
                Due.is("octet(" + sector + ", " + j + ")", x.octet(sector, j), want);
            }
        }
    }

    private static void sizes() {
        int[][] sizes = {{0, 1}, {29, 30}, {30, 1}, {59, 30}, {-1, 30}, {-30, 1}, {-29, 2},
            {Integer.MAX_VALUE, 8}, {Integer.MIN_VALUE, 23}};
        for (int[] size : sizes) {
            TwoSlots x = new TwoSlots(0, size[0], -1L);
            Due.is("slot(0, 3) of size " + size[0], x.slot(0, 3), size[1]);
            Due.is("slot(0, 0) of size " + size[0], x.slot(0, 0), 1);
            Due.is("boot() of size " + size[0], x.boot(), 0);
        }
    }
}
