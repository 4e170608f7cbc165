/** Promises 1 and 2: a new object, and lay. */
public final class LayTest {
    // at, n, value: every field of the first layout that is not 0.
    private static final int[][] NEW_ROW = {
        {0, 4, 512}, {4, 4, 1024}, {24, 4, 2}, {28, 4, 2}, {32, 4, 256}, {36, 4, 256}, {40, 4, 128},
        {54, 2, 65535}, {56, 2, 61267}, {58, 2, 1}, {76, 4, 1}, {84, 4, 11}, {88, 2, 256},
        {92, 4, 36}, {96, 4, 66}, {100, 4, 3}, {224, 4, 8}, {252, 1, 1},
    };
    private static final int[][] SMALL_BLOCKS_ROW = {
        {0, 4, 26624}, {4, 4, 100000}, {20, 4, 1}, {32, 4, 8192}, {36, 4, 8192}, {40, 4, 2048},
        {54, 2, 65535}, {56, 2, 61267}, {58, 2, 1}, {76, 4, 1}, {84, 4, 11}, {88, 2, 128},
        {92, 4, 36}, {96, 4, 66}, {100, 4, 3}, {224, 4, 8}, {252, 1, 1},
    };

    public static void main(String[] args) {
        newObject();
        everythingIsLaidAnew();
        edges();
        refused();
        Due.end();
    }

    private static void rowsAre(String when, int[][] fields, Due.Run run) {
        int[] want = new int[2048];
        for (int[] field : fields) {
            for (int i = 0; i < field[1]; i++) {
                want[field[0] + i] = field[2] >>> 8 * i & 255;
                want[1024 + field[0] + i] = field[2] >>> 8 * i & 255;
            }
        }
        Due.sameBytes(when, Due.bytesBehind(run), want);
    }

    private static void newObject() {
        rowsAre("a new object", NEW_ROW, x -> { });
        FieldRows x = new FieldRows();
        Due.is("fault(0)", x.fault(0), FieldRows.RIGHT);
        Due.is("fault(1)", x.fault(1), FieldRows.RIGHT);
        Due.is("differs()", x.differs(), FieldRows.RIGHT);
        Due.is("groups()", x.groups(), 4);
    }

    private static void everythingIsLaidAnew() {
        for (int spoilt = 0; spoilt < 2; spoilt++) {
            int row = spoilt;
            rowsAre("laid over a spoilt row " + row, SMALL_BLOCKS_ROW, x -> {
                Due.fill(x, row, 254);
                Due.is("lay small blocks", x.lay(100000, 8192, 2048, 128, 0), 13);
                Due.is("fault(0)", x.fault(0), FieldRows.RIGHT);
                Due.is("fault(1)", x.fault(1), FieldRows.RIGHT);
            });
        }
        rowsAre("laid as new", NEW_ROW, x -> {
            x.lay(100000, 8192, 2048, 128, 0);
            Due.is("lay as new", x.lay(1024, 256, 128, 256, 2), 4);
        });
    }

    private static void laid(int blocks, int perGroup, int files, int record, int shift, int want) {
        FieldRows x = new FieldRows();
        String call = "lay(" + blocks + ", " + perGroup + ", " + files + ", " + record + ", " + shift + ")";
        Due.is(call, x.lay(blocks, perGroup, files, record, shift), want);
        if (want == FieldRows.BAD) {
            Due.changesNothing(call, y -> y.poke(1, 500, 9), y -> y.lay(blocks, perGroup, files, record, shift));
        } else {
            Due.is(call + ", groups()", x.groups(), want);
            Due.is(call + ", get(0, 0, 4)", x.get(0, 0, 4), (long) want * files);
            Due.is(call + ", get(0, 20, 4)", x.get(0, 20, 4), shift == 0 ? 1 : 0);
        }
    }

    private static void edges() {
        // 1 + 1 + 2 + 2 fixed blocks, so the only group needs 7 blocks behind block 0.
        laid(7, 64, 16, 128, 0, FieldRows.BAD);
        laid(8, 64, 16, 128, 0, 1);
        laid(65, 64, 16, 128, 0, 1);
        // Group 1 has a copy, too; group 2 has none and needs 5 blocks.
        laid(71, 64, 16, 128, 0, FieldRows.BAD);
        laid(72, 64, 16, 128, 0, 2);
        laid(129 + 4, 64, 16, 128, 0, FieldRows.BAD);
        laid(129 + 5, 64, 16, 128, 0, 3);
        laid(64 * 64 + 1, 64, 16, 128, 0, 64);
        laid(64 * 64 + 2, 64, 16, 128, 0, FieldRows.BAD);
        laid(64 * 64 + 6, 64, 16, 128, 0, FieldRows.BAD);
        laid(64 * 64 + 64, 64, 16, 128, 0, FieldRows.BAD);
        // From 33 groups on the descriptors take two blocks: group 49 then has 1 + 2 + 2 + 2 fixed ones.
        laid(49 * 64 + 1 + 7, 64, 16, 128, 0, FieldRows.BAD);
        laid(49 * 64 + 1 + 8, 64, 16, 128, 0, 50);
        laid(1 << 24, 1 << 15, 1 << 15, 1024, 2, FieldRows.BAD);
        laid(1 << 21, 1 << 15, 1 << 15, 128, 2, 64);
        laid(1 << 21, 1 << 15, 1 << 15, 1024, 2, 64);
        laid((1 << 21) + 1, 1 << 15, 1 << 15, 128, 2, FieldRows.BAD);
        laid(8193, 8192, 8192, 128, 0, 1);
        laid(8193, 8192, 8200, 128, 0, FieldRows.BAD);
        laid(8193, 8192, 8192, 1024, 0, FieldRows.BAD);
        laid(8193, 8200, 16, 128, 0, FieldRows.BAD);
        laid(16384, 16384, 16384, 128, 1, 1);
        laid(16384, 16392, 16384, 128, 1, FieldRows.BAD);
        laid(16384, 16384, 16392, 1024, 1, FieldRows.BAD);
        laid(32768, 32768, 32, 128, 2, 1);
        laid(32768, 32776, 32, 128, 2, FieldRows.BAD);
        laid(32768, 32768, 16, 128, 2, FieldRows.BAD);
        laid(32768, 32768, 16, 256, 2, 1);
        laid(32768, 32768, 24, 256, 2, FieldRows.BAD);
        laid(32768, 32768, 24, 512, 2, 1);
        laid(32768, 32768, 24, 1024, 2, 1);
    }

    private static void refused() {
        int least = Integer.MIN_VALUE;
        int most = Integer.MAX_VALUE;
        laid(0, 0, 0, 0, 0, FieldRows.BAD);
        laid(least, least, least, least, least, FieldRows.BAD);
        laid(most, most, most, most, most, FieldRows.BAD);
        laid(-1, -1, -1, -1, -1, FieldRows.BAD);
        for (int wrong : new int[] {least, -65536 + 256, -256, -1, 0, 1, 3, 65536 + 256, most}) {
            laid(wrong, 256, 128, 256, 2, FieldRows.BAD);
            laid(1024, wrong, 128, 256, 2, FieldRows.BAD);
            laid(1024, 256, wrong, 256, 2, FieldRows.BAD);
            laid(1024, 256, 128, wrong, 2, FieldRows.BAD);
        }
        for (int wrong : new int[] {least, -1, 3, 32, 64, 66, most}) {
            laid(1024, 256, 128, 256, wrong, FieldRows.BAD);
        }
        for (int wrong : new int[] {56, 63, 65, 252, 260}) {
            laid(1024, wrong, 128, 256, 2, FieldRows.BAD);
        }
        laid(1024, 256, 8, 512, 2, FieldRows.BAD);
        laid(1024, 256, 100, 256, 2, FieldRows.BAD);
        laid(1024, 256, 128, 64, 2, FieldRows.BAD);
        laid(1024, 256, 128, 384, 2, FieldRows.BAD);
        laid(1024, 256, 128, 2048, 2, FieldRows.BAD);
    }
}
