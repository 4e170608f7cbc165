/** Promises 1 and 2 at their edges: each number that lay takes, and that a refused lay changes nothing. */
public final class LayLimitsTest {
    private static final int BAD = FieldRows.BAD;
    private static final int LEAST = Integer.MIN_VALUE;
    private static final int MOST = Integer.MAX_VALUE;

    // Row 0 is right and row 1 is unlike it, so that neither could be laid anew without being seen.
    private static final Due.Run UNLIKE_ROWS = x -> {
        x.lay(3000, 1024, 32, 512, 1);
        x.put(0, 12, 4, 7);
        x.put(0, 1020, 4, 0x89abcdef);
        Due.fill(x, 1, 165);
    };

    public static void main(String[] args) {
        aNewObjectIsAsLaid();
        blocks();
        perGroup();
        files();
        record();
        shift();
        allAtOnce();
        aRefusedLayKeepsWrongRows();
        theLargestAndTheSmallest();
        bytesThatFollow();
        Due.end();
    }

    private static String call(int... v) {
        return "lay(" + v[0] + ", " + v[1] + ", " + v[2] + ", " + v[3] + ", " + v[4] + ")";
    }

    private static void laid(int want, int... v) {
        FieldRows x = new FieldRows();
        UNLIKE_ROWS.on(x);
        Due.is(call(v), x.lay(v[0], v[1], v[2], v[3], v[4]), want);
        Due.is("groups() behind " + call(v), x.groups(), want);
        Due.is("fault(0) behind " + call(v), x.fault(0), FieldRows.RIGHT);
        Due.is("fault(1) behind " + call(v), x.fault(1), FieldRows.RIGHT);
        Due.is("differs() behind " + call(v), x.differs(), FieldRows.RIGHT);
    }

    private static void refused(int... v) {
        Due.refuses(call(v), UNLIKE_ROWS, x -> x.lay(v[0], v[1], v[2], v[3], v[4]));
    }

    /** "Both rows are as behind lay(1024, 256, 128, 256, 2)." */
    private static void aNewObjectIsAsLaid() {
        Due.sameBytes("a new object", Due.bytesBehind(x -> { }), Due.bytesBehind(x -> {
            UNLIKE_ROWS.on(x);
            Due.is("lay as new", x.lay(1024, 256, 128, 256, 2), 4);
        }));
    }

    /** "so many blocks": group 0 has 12 fixed ones, and so has group 3. */
    private static void blocks() {
        laid(1, 13, 256, 128, 256, 2);
        laid(1, 256, 256, 128, 256, 2);
        laid(2, 512, 256, 128, 256, 2);
        laid(4, 768 + 13, 256, 128, 256, 2);
        laid(64, 64 * 256, 256, 128, 256, 2);
        for (int wrong : new int[] {LEAST, LEAST + 1024, -1024, -1, 0, 1, 2, 12, 257, 768 + 1, 768 + 12,
                64 * 256 + 1, 65 * 256, (1 << 24) - 1, 1 << 24, (1 << 24) + 1, MOST}) {
            refused(wrong, 256, 128, 256, 2);
        }
        // With shift 0 the first block is 1.
        laid(1, 8, 64, 16, 128, 0);
        refused(7, 64, 16, 128, 0);
        refused(1, 64, 16, 128, 0);
        refused(0, 64, 16, 128, 0);
    }

    /** "in a group of so many blocks": 64 .. 8 size, and a multiple of 8. */
    private static void perGroup() {
        for (int shift = 0; shift <= 2; shift++) {
            int most = 8 * (1024 << shift);
            laid(1, 64, 64, 32, 128, shift);
            laid(1, 64, 72, 32, 128, shift);
            laid(1, 64, most - 8, 32, 128, shift);
            laid(1, 64, most, 32, 128, shift);
            for (int wrong : new int[] {LEAST, LEAST + 64, -64, -8, -1, 0, 1, 8, 56, 63, 65, 68, most - 4, most - 1,
                    most + 1, most + 8, 65536 + 64, MOST - 7, MOST}) {
                refused(64, wrong, 32, 128, shift);
            }
        }
    }

    /** "and files": 16 .. 8 size, a multiple of 8, and whole blocks. */
    private static void files() {
        for (int shift = 0; shift <= 2; shift++) {
            int most = 8 * (1024 << shift);
            int step = shift == 2 ? 32 : 16;
            laid(1, most, most, step, 128, shift);
            laid(1, most, most, most - step, 128, shift);
            laid(1, most, most, most, 128, shift);
            for (int wrong : new int[] {LEAST, LEAST + 32, -32, -1, 0, 1, 8, 15, 17, 31, 33, step + 4, most - 4, most - 1,
                    most + 1, most + 8, most + 16, most + 32, 65536 + 32, MOST - 31, MOST}) {
                refused(most, most, wrong, 128, shift);
            }
        }
        // 8 files are too few, even where they fill a block or more; 16 are not, where they do.
        refused(64, 64, 8, 128, 0);
        refused(64, 64, 8, 1024, 0);
        refused(64, 64, 8, 1024, 2);
        laid(1, 64, 64, 16, 128, 0);
        laid(1, 64, 64, 16, 128, 1);
        refused(64, 64, 16, 128, 2);
        laid(1, 64, 64, 16, 256, 2);
        refused(64, 64, 24, 128, 1);
        refused(64, 64, 24, 256, 2);
        laid(1, 64, 64, 24, 128, 0);
        laid(1, 64, 64, 24, 256, 1);
        laid(1, 64, 64, 24, 512, 2);
    }

    /** "records of so many bytes" */
    private static void record() {
        for (int shift = 0; shift <= 2; shift++) {
            for (int right = 128; right <= 1024; right *= 2) {
                laid(1, 64, 64, 32, right, shift);
                refused(64, 64, 32, right - 1, shift);
                refused(64, 64, 32, right + 1, shift);
                // These would leave the right number in the field's 2 bytes, and are no such number.
                refused(64, 64, 32, right + 65536, shift);
                refused(64, 64, 32, right - 65536, shift);
                refused(64, 64, 32, right + LEAST, shift);
                refused(64, 64, 32, -right, shift);
            }
            for (int wrong : new int[] {LEAST, -1, 0, 1, 32, 64, 192, 384, 768, 2048, 4096, 65535, 65536, MOST}) {
                refused(64, 64, 32, wrong, shift);
            }
        }
    }

    /** "a shift": 0 .. 2. */
    private static void shift() {
        for (int shift = 0; shift <= 2; shift++) {
            laid(4, 1024, 256, 128, 256, shift);
        }
        for (int wrong : new int[] {LEAST, LEAST + 2, -64, -32, -1, 3, 4, 30, 31, 32, 33, 34, 63, 64, 65, 66, 256,
                65536, 1 << 24, MOST}) {
            refused(1024, 256, 128, 256, wrong);
        }
    }

    private static void allAtOnce() {
        for (int wrong : new int[] {LEAST, -1, 0, 1, 2, 64, 128, 256, 1024, MOST}) {
            refused(wrong, wrong, wrong, wrong, wrong);
        }
    }

    /** "BAD, changing nothing": rows that are not right stay as they are. */
    private static void aRefusedLayKeepsWrongRows() {
        Due.Run wrongRows = x -> {
            Due.fill(x, 0, 255);
            x.put(1, 0, 4, MOST);
            x.put(1, 32, 4, 0);
            x.put(1, 1020, 4, LEAST);
        };
        Due.refuses("lay of no blocks, rows wrong", wrongRows, x -> x.lay(0, 256, 128, 256, 2));
        Due.refuses("lay with shift 3, rows wrong", wrongRows, x -> x.lay(1024, 256, 128, 256, 3));
        Due.refuses("lay of cut records, rows wrong", wrongRows, x -> x.lay(1024, 256, 128, 65536 + 256, 2));
    }

    private static void theLargestAndTheSmallest() {
        laid(64, 1 << 21, 1 << 15, 1 << 15, 1024, 2);
        refused((1 << 21) + 1, 1 << 15, 1 << 15, 1024, 2);
        laid(1, 8, 64, 16, 128, 0);
        refused(7, 64, 16, 128, 0);
        laid(1, 6, 64, 16, 128, 1);
        refused(5, 64, 16, 128, 1);
        laid(1, 6, 64, 32, 128, 2);
        refused(5, 64, 32, 128, 2);
    }

    /** "Row 0 is laid out, and row 1 like it: ..; all else 0, but what follows" */
    private static void bytesThatFollow() {
        int[][] volumes = {
            {64, 1 << 21, 1 << 15, 1 << 15, 1024, 2}, {64, 8192 * 64 + 1, 8192, 8192, 128, 0}, {1, 8, 64, 16, 128, 0},
            {1, 6, 64, 16, 128, 1}, {1, 6, 64, 32, 128, 2}, {50, 1 + 49 * 64 + 8, 64, 16, 128, 0},
        };
        for (int[] v : volumes) {
            int[] want = new int[2048];
            for (int from = 0; from < 2048; from += 1024) {
                numbers(want, from, v);
            }
            Due.sameBytes("lay of " + v[1] + " blocks", Due.bytesBehind(x -> {
                UNLIKE_ROWS.on(x);
                Due.is("lay of " + v[1] + " blocks", x.lay(v[1], v[2], v[3], v[4], v[5]), v[0]);
            }), want);
        }
    }

    private static void numbers(int[] bytes, int from, int[] v) {
        int[][] fields = {
            {0, v[0] * v[3]}, {4, v[1]}, {20, v[5] == 0 ? 1 : 0}, {24, v[5]}, {28, v[5]}, {32, v[2]}, {36, v[2]},
            {40, v[3]}, {54, 65535}, {56, 61267}, {58, 1}, {76, 1}, {84, 11}, {88, v[4]}, {92, 36}, {96, 66}, {100, 3},
            {224, 8}, {252, 1},
        };
        for (int[] field : fields) {
            // Added, as the highest bytes of a number, being 0, may lie in the field behind it.
            for (int i = 0; i < 4; i++) {
                bytes[from + field[0] + i] += field[1] >>> 8 * i & 255;
            }
        }
    }
}
