/**
 * Promises 3 to 11 at their edges: the last argument that a call takes and the first that it does not, on
 * each side, the smallest and the largest int; and that a call which answers BAD changes nothing.
 */
public final class CallLimitsTest {
    private static final int BAD = FieldRows.BAD;
    private static final int RIGHT = FieldRows.RIGHT;
    private static final int LEAST = Integer.MIN_VALUE;
    private static final int MOST = Integer.MAX_VALUE;
    private static final int[] NO_ROWS = {LEAST, LEAST + 1, -2, -1, 2, 3, 256, 65536, MOST};
    private static final int[] NO_LENGTHS = {LEAST, LEAST + 4, -4, -2, -1, 0, 3, 5, 6, 7, 8, 16, 257, MOST};

    // Row 0 is right, and row 1 is unlike it nearly everywhere, so that a byte that strays is seen.
    private static final Due.Run UNLIKE_ROWS = x -> {
        for (int at = 0; at < 1024; at += 4) {
            x.put(1, at, 4, at * 0x01030507 + 0x11223344);
        }
        for (int at = 256; at < 320; at += 4) {
            x.put(0, at, 4, at * 0x07050301 + 0x44332211);
        }
        x.put(0, 1020, 4, 0x0badcafe);
        x.put(0, 12, 4, 77);
        x.put(0, 90, 2, 1);
    };

    // at, n, and a value that is wrong there: one for each fault of a new object's row.
    private static final int[][] WRONG = {
        {56, 2, 61266}, {76, 4, 2}, {24, 4, 3}, {28, 4, 1}, {20, 4, 1}, {32, 4, 32776}, {36, 4, 264}, {88, 2, 127},
        {40, 4, 120}, {4, 4, 780}, {4, 4, 0}, {4, 4, -1}, {0, 4, 513}, {8, 4, 1025}, {12, 4, 1025}, {16, 4, 513},
        {58, 2, 2}, {84, 4, 10}, {84, 4, 513}, {90, 2, 2}, {90, 2, 4}, {92, 4, 37}, {96, 4, 74}, {96, 4, 64},
        {100, 4, 7}, {224, 4, 0}, {232, 4, 513}, {252, 1, 0}, {254, 2, 1},
    };

    public static void main(String[] args) {
        pokeNoSuchRow();
        pokeNoSuchByte();
        pokeNoSuchValue();
        putNoSuchRow();
        putNoSuchBytes();
        putNoSuchLength();
        putTheLowestBytes();
        getNoSuchRow();
        getNoSuchBytes();
        getNoSuchLength();
        getWithoutSign();
        faultNoSuchRow();
        copyNoSuchGroup();
        copyGroupWithoutCopy();
        copyRowNotRight();
        copyOverAnyRow();
        differsLeavesOut();
        differsInNothing();
        differsOfWrongRows();
        groupsRowNotRight();
        whereNoSuchGroup();
        whereNoSuchNumber();
        whereRowNotRight();
        recordNoSuchFile();
        recordAtTheEdges();
        recordRowNotRight();
        Due.end();
    }

    private static FieldRows unlikeRows() {
        FieldRows x = new FieldRows();
        UNLIKE_ROWS.on(x);
        return x;
    }

    private static Due.Run wrong(int[] field) {
        return x -> {
            UNLIKE_ROWS.on(x);
            x.put(0, field[0], field[1], field[2]);
        };
    }

    /** "poke .. BAD: no such row" */
    private static void pokeNoSuchRow() {
        for (int wrong : NO_ROWS) {
            Due.refuses("poke(" + wrong + ", 0, 0)", UNLIKE_ROWS, x -> x.poke(wrong, 0, 0));
            Due.refuses("poke(" + wrong + ", 1023, 255)", UNLIKE_ROWS, x -> x.poke(wrong, 1023, 255));
        }
        FieldRows x = unlikeRows();
        Due.is("poke(0, 90, 3)", x.poke(0, 90, 3), 1);
        Due.is("poke(1, 0, 3)", x.poke(1, 0, 3), 0x44);
    }

    /** "poke .. BAD: no such .. byte" */
    private static void pokeNoSuchByte() {
        for (int row = 0; row < 2; row++) {
            int r = row;
            for (int wrong : new int[] {LEAST, LEAST + 1023, -1024, -1, 1024, 1025, 2047, 65536, MOST}) {
                Due.refuses("poke(" + row + ", " + wrong + ", 7)", UNLIKE_ROWS, x -> x.poke(r, wrong, 7));
            }
            for (int edge : new int[] {0, 1, 1022, 1023}) {
                FieldRows x = unlikeRows();
                long was = x.get(row, edge, 1);
                Due.is("poke(" + row + ", " + edge + ", 7)", x.poke(row, edge, 7), was);
                Due.is("get(" + row + ", " + edge + ", 1)", x.get(row, edge, 1), 7);
            }
        }
    }

    /** "poke .. BAD: no such .. v": 0 .. 255. */
    private static void pokeNoSuchValue() {
        for (int row = 0; row < 2; row++) {
            int r = row;
            for (int at : new int[] {0, 500, 1023}) {
                for (int wrong : new int[] {LEAST, LEAST + 1, -256, -255, -128, -1, 256, 257, 511, 65536, MOST}) {
                    Due.refuses("poke(" + row + ", " + at + ", " + wrong + ")", UNLIKE_ROWS, x -> x.poke(r, at, wrong));
                }
                FieldRows x = new FieldRows();
                long was = x.get(row, at, 1);
                for (int v = 0; v <= 255; v++) {
                    Due.is("poke(" + row + ", " + at + ", " + v + ")", x.poke(row, at, v), was);
                    was = v;
                }
                Due.is("get(" + row + ", " + at + ", 1)", x.get(row, at, 1), 255);
            }
        }
    }

    /** "put .. BAD: no such row" */
    private static void putNoSuchRow() {
        for (int wrong : NO_ROWS) {
            for (int n : new int[] {1, 2, 4}) {
                Due.refuses("put(" + wrong + ", 0, " + n + ", 9)", UNLIKE_ROWS, x -> x.put(wrong, 0, n, 9));
            }
        }
        FieldRows x = unlikeRows();
        Due.is("put(0, 90, 2, 3)", x.put(0, 90, 2, 3), 0);
        Due.is("put(1, 90, 2, 3)", x.put(1, 90, 2, 3), 0);
    }

    private static int[] noBytes(int n) {
        return new int[] {LEAST, LEAST + 1, -1024, -n, -1, 1024 - n + 1, 1024, 1025, 65536, MOST - n,
            MOST - n + 1, MOST};
    }

    /** "put .. BAD: no such .. bytes": each of the n must be in the row. */
    private static void putNoSuchBytes() {
        for (int n : new int[] {1, 2, 4}) {
            for (int wrong : noBytes(n)) {
                Due.refuses("put(0, " + wrong + ", " + n + ", 9)", UNLIKE_ROWS, x -> x.put(0, wrong, n, 9));
                Due.refuses("put(1, " + wrong + ", " + n + ", 9)", UNLIKE_ROWS, x -> x.put(1, wrong, n, 9));
            }
            for (int edge : new int[] {0, 1, 1024 - n - 1, 1024 - n}) {
                FieldRows x = unlikeRows();
                Due.is("put(1, " + edge + ", " + n + ", 9)", x.put(1, edge, n, 9), 0);
                Due.is("get(1, " + edge + ", " + n + ")", x.get(1, edge, n), 9);
            }
        }
    }

    /** "put .. BAD: no such .. n": 1, 2 or 4. */
    private static void putNoSuchLength() {
        for (int wrong : NO_LENGTHS) {
            for (int at : new int[] {0, 8, 1016, 1023, 1024, -1, LEAST, MOST}) {
                Due.refuses("put(0, " + at + ", " + wrong + ", 9)", UNLIKE_ROWS, x -> x.put(0, at, wrong, 9));
            }
        }
    }

    /** "A field of n bytes .. becomes v (its lowest n bytes)": any int is a v, and no other byte changes. */
    private static void putTheLowestBytes() {
        int[] before = Due.bytesBehind(UNLIKE_ROWS);
        for (int n : new int[] {1, 2, 4}) {
            for (int at : new int[] {0, 1, 511, 1024 - n}) {
                for (int v : new int[] {LEAST, MOST, -1, 0, 255, 256, 65535, 65536, 0x01020304, 0xf1f2f3f4}) {
                    int[] want = before.clone();
                    for (int i = 0; i < n; i++) {
                        want[at + i] = v >>> 8 * i & 255;
                    }
                    String call = "put(0, " + at + ", " + n + ", " + v + ")";
                    Due.sameBytes(call, Due.bytesBehind(x -> {
                        UNLIKE_ROWS.on(x);
                        Due.is(call, x.put(0, at, n, v), 0);
                    }), want);
                }
            }
        }
    }

    /** "get .. BAD: no such row" */
    private static void getNoSuchRow() {
        for (int wrong : NO_ROWS) {
            for (int n : new int[] {1, 2, 4}) {
                Due.refuses("get(" + wrong + ", 0, " + n + ")", UNLIKE_ROWS, x -> x.get(wrong, 0, n));
            }
        }
    }

    /** "get .. BAD: no such .. bytes" */
    private static void getNoSuchBytes() {
        for (int n : new int[] {1, 2, 4}) {
            for (int wrong : noBytes(n)) {
                Due.refuses("get(0, " + wrong + ", " + n + ")", UNLIKE_ROWS, x -> x.get(0, wrong, n));
                Due.refuses("get(1, " + wrong + ", " + n + ")", UNLIKE_ROWS, x -> x.get(1, wrong, n));
            }
        }
        FieldRows x = unlikeRows();
        Due.is("get(0, 1020, 4)", x.get(0, 1020, 4), 0x0badcafeL);
        Due.is("get(0, 1022, 2)", x.get(0, 1022, 2), 0x0bad);
        Due.is("get(0, 1023, 1)", x.get(0, 1023, 1), 0x0b);
        Due.is("get(1, 0, 4)", x.get(1, 0, 4), 0x11223344L);
        Due.is("get(1, 0, 2)", x.get(1, 0, 2), 0x3344);
        Due.is("get(1, 0, 1)", x.get(1, 0, 1), 0x44);
    }

    /** "get .. BAD: no such .. n" */
    private static void getNoSuchLength() {
        for (int wrong : NO_LENGTHS) {
            for (int at : new int[] {0, 8, 1016, 1023, 1024, -1, LEAST, MOST}) {
                Due.refuses("get(1, " + at + ", " + wrong + ")", UNLIKE_ROWS, x -> x.get(1, at, wrong));
            }
        }
    }

    /** "FIELDS are numbers with the lowest byte first, without sign" */
    private static void getWithoutSign() {
        FieldRows x = new FieldRows();
        for (int at : new int[] {0, 3, 1020}) {
            x.put(0, at, 4, -1);
            Due.is("get(0, " + at + ", 1) of -1", x.get(0, at, 1), 255);
            Due.is("get(0, " + at + ", 2) of -1", x.get(0, at, 2), 65535);
            Due.is("get(0, " + at + ", 4) of -1", x.get(0, at, 4), 4294967295L);
            x.put(0, at, 4, LEAST);
            Due.is("get(0, " + at + ", 4) of the smallest int", x.get(0, at, 4), 2147483648L);
            Due.is("get(0, " + (at + 3) + ", 1) of the smallest int", x.get(0, at + 3, 1), 128);
            x.put(0, at, 4, MOST);
            Due.is("get(0, " + at + ", 4) of the largest int", x.get(0, at, 4), 2147483647L);
            Due.is("get(0, " + (at + 2) + ", 2) of the largest int", x.get(0, at + 2, 2), 32767);
        }
    }

    /** "fault .. BAD: no such row" */
    private static void faultNoSuchRow() {
        for (int wrong : NO_ROWS) {
            Due.refuses("fault(" + wrong + ")", UNLIKE_ROWS, x -> x.fault(wrong));
        }
        FieldRows x = unlikeRows();
        Due.is("fault(0)", x.fault(0), RIGHT);
        Due.is("fault(1)", x.fault(1), 56);
    }

    /** "copy .. BAD: .. no such group" */
    private static void copyNoSuchGroup() {
        int[] none = {LEAST, LEAST + 1, -65536, -65535, -3, -1, 4, 5, 7, 9, 25, 49, 64, 256, 65535, 65536, 65537, 65539,
            MOST};
        for (int wrong : none) {
            Due.refuses("copy(" + wrong + ")", UNLIKE_ROWS, x -> x.copy(wrong));
            // Nor is there such a group where all have copies.
            Due.refuses("copy(" + wrong + "), all have copies", all(UNLIKE_ROWS), x -> x.copy(wrong));
        }
        // The last group, with a copy.
        FieldRows x = unlikeRows();
        Due.is("copy(3)", x.copy(3), 0);
        Due.is("copy(0)", x.copy(0), 0);
        x.lay(1 + 49 * 64 + 8, 64, 16, 128, 0);
        Due.is("copy(49)", x.copy(49), 0);
        Due.is("copy(50)", x.copy(50), BAD);
        x.lay(1 + 49 * 64, 64, 16, 128, 0);
        Due.is("copy(49) of 49 groups", x.copy(49), BAD);
    }

    private static Due.Run all(Due.Run before) {
        return x -> {
            before.on(x);
            x.put(0, 100, 4, 2);
        };
    }

    /** "copy .. BAD: .. or it has no copy" */
    private static void copyGroupWithoutCopy() {
        Due.refuses("copy(2)", UNLIKE_ROWS, x -> x.copy(2));
        for (int group = 0; group < 64; group++) {
            int g = group;
            Due.Run before = x -> {
                x.lay(4097, 64, 16, 128, 0);
                x.put(1, 88, 4, -1);
                x.put(0, 300, 4, 5);
            };
            FieldRows x = new FieldRows();
            before.on(x);
            if (x.where(group, 2) == 0) {
                Due.refuses("copy(" + group + ")", before, y -> y.copy(g));
            } else {
                Due.is("copy(" + group + ")", x.copy(group), 0);
                Due.is("get(1, 90, 2)", x.get(1, 90, 2), group);
            }
        }
        FieldRows x = unlikeRows();
        x.put(0, 100, 4, 2);
        Due.is("copy(2), all have copies", x.copy(2), 0);
    }

    /** "copy .. BAD: row 0 is not right" */
    private static void copyRowNotRight() {
        for (int[] field : WRONG) {
            for (int group : new int[] {0, 1, 3}) {
                Due.refuses("copy(" + group + "), wrong at " + field[0], wrong(field), x -> x.copy(group));
            }
        }
    }

    /** "Row 1 becomes the copy of row 0 ..: the same bytes, but the group's number at 90" */
    private static void copyOverAnyRow() {
        for (int group : new int[] {0, 1, 3}) {
            int[] want = Due.bytesBehind(UNLIKE_ROWS);
            System.arraycopy(want, 0, want, 1024, 1024);
            want[1024 + 90] = group;
            Due.sameBytes("copy(" + group + ")", Due.bytesBehind(x -> {
                UNLIKE_ROWS.on(x);
                Due.is("copy(" + group + ")", x.copy(group), 0);
                Due.is("differs()", x.differs(), RIGHT);
                Due.is("fault(1)", x.fault(1), RIGHT);
            }), want);
        }
    }

    /** "leaving out what a copy need not follow": the first and the last byte of each, and their neighbours. */
    private static void differsLeavesOut() {
        int[][] leftOut = {{12, 19}, {44, 53}, {58, 59}, {90, 91}, {232, 235}};
        for (int row = 0; row < 2; row++) {
            for (int[] range : leftOut) {
                differsAt(row, range[0] - 1, range[0] - 1);
                for (int i = range[0]; i <= range[1]; i++) {
                    differsAt(row, i, RIGHT);
                }
                differsAt(row, range[1] + 1, range[1] + 1);
            }
            differsAt(row, 0, 0);
            differsAt(row, 1023, 1023);
        }
        FieldRows x = new FieldRows();
        for (int[] range : leftOut) {
            for (int i = range[0]; i <= range[1]; i++) {
                x.poke(1, i, 201);
            }
        }
        Due.is("differs() in all that is left out", x.differs(), RIGHT);
        x.poke(0, 1023, 1);
        Due.is("differs() in the last byte, too", x.differs(), 1023);
        x.poke(0, 0, 1);
        Due.is("differs() in the first byte, too", x.differs(), 0);
    }

    private static void differsAt(int row, int i, int want) {
        for (int bit = 0; bit < 8; bit++) {
            FieldRows x = new FieldRows();
            x.poke(row, i, (int) x.get(row, i, 1) ^ 1 << bit);
            Due.is("differs(), bit " + bit + " of byte " + i + " of row " + row, x.differs(), want);
        }
    }

    /** "RIGHT if there is none" */
    private static void differsInNothing() {
        FieldRows x = new FieldRows();
        Due.is("differs() of a new object", x.differs(), RIGHT);
        UNLIKE_ROWS.on(x);
        Due.is("differs() in the first byte", x.differs(), 0);
        x.copy(3);
        Due.is("differs() of a copy", x.differs(), RIGHT);
        x.lay(8, 64, 16, 128, 0);
        Due.is("differs() behind lay", x.differs(), RIGHT);
    }

    /** The rows need not be right for it. */
    private static void differsOfWrongRows() {
        for (int[] field : WRONG) {
            FieldRows x = new FieldRows();
            x.put(0, field[0], field[1], field[2]);
            x.put(1, field[0], field[1], field[2]);
            Due.is("differs(), both wrong at " + field[0], x.differs(), RIGHT);
            x.poke(1, 1023, 9);
            Due.is("differs(), both wrong at " + field[0] + ", and unlike at 1023", x.differs(), 1023);
        }
    }

    /** "groups .. BAD if it is not right" */
    private static void groupsRowNotRight() {
        for (int[] field : WRONG) {
            Due.refuses("groups(), wrong at " + field[0], wrong(field), x -> x.groups());
        }
        Due.is("groups(), row 1 not right", unlikeRows().groups(), 4);
    }

    /** "where .. BAD: .. no such group" */
    private static void whereNoSuchGroup() {
        for (int what = 0; what < 8; what++) {
            int w = what;
            for (int wrong : new int[] {LEAST, LEAST + 1, -2, -1, 4, 5, 64, 256, 65536, MOST}) {
                Due.refuses("where(" + wrong + ", " + what + ")", UNLIKE_ROWS, x -> x.where(wrong, w));
            }
        }
        FieldRows x = unlikeRows();
        Due.is("where(0, 0)", x.where(0, 0), 0);
        Due.is("where(3, 0)", x.where(3, 0), 768);
        x.lay(4097, 64, 16, 128, 0);
        Due.is("where(63, 0)", x.where(63, 0), 4033);
        Due.is("where(64, 0)", x.where(64, 0), BAD);
        x.lay(8, 64, 16, 128, 0);
        Due.is("where(0, 0) of one group", x.where(0, 0), 1);
        Due.is("where(1, 0) of one group", x.where(1, 0), BAD);
    }

    /** "where .. BAD: .. no such .. number": 0 .. 7. */
    private static void whereNoSuchNumber() {
        for (int group = 0; group < 4; group++) {
            int g = group;
            for (int wrong : new int[] {LEAST, LEAST + 7, -8, -1, 8, 9, 16, 256, 65536, MOST}) {
                Due.refuses("where(" + group + ", " + wrong + ")", UNLIKE_ROWS, x -> x.where(g, wrong));
            }
        }
        FieldRows x = unlikeRows();
        int[][] want = {
            {0, 256, 1, 2, 3, 4, 8, 12}, {256, 256, 1, 258, 259, 260, 8, 12},
            {512, 256, 0, 512, 513, 514, 8, 10}, {768, 256, 1, 770, 771, 772, 8, 12},
        };
        for (int group = 0; group < 4; group++) {
            for (int what = 0; what < 8; what++) {
                Due.is("where(" + group + ", " + what + ")", x.where(group, what), want[group][what]);
            }
        }
    }

    /** "where .. BAD: row 0 is not right" */
    private static void whereRowNotRight() {
        for (int[] field : WRONG) {
            for (int what = 0; what < 8; what++) {
                int w = what;
                Due.refuses("where(0, " + what + "), wrong at " + field[0], wrong(field), x -> x.where(0, w));
                Due.refuses("where(3, " + what + "), wrong at " + field[0], wrong(field), x -> x.where(3, w));
            }
        }
    }

    /** "record .. BAD: .. there is no such file": files from 1 on. */
    private static void recordNoSuchFile() {
        for (int wrong : new int[] {LEAST, LEAST + 1, -512, -1, 0, 513, 514, 640, 65537, MOST}) {
            Due.refuses("record(" + wrong + ", false)", UNLIKE_ROWS, x -> x.record(wrong, false));
            Due.refuses("record(" + wrong + ", true)", UNLIKE_ROWS, x -> x.record(wrong, true));
        }
        FieldRows x = unlikeRows();
        Due.is("record(1, false)", x.record(1, false), 4);
        Due.is("record(512, false)", x.record(512, false), 779);
    }

    /** "files from 1 on, one behind the other, group by group": the edges of a block and of a group. */
    private static void recordAtTheEdges() {
        int[][] volumes = {
            {8, 64, 16, 128, 0}, {1 + 3 * 64, 64, 16, 1024, 0}, {3000, 1024, 32, 512, 1}, {1024, 256, 128, 256, 2},
            {1 << 21, 1 << 15, 1 << 15, 1024, 2}, {4097, 64, 24, 128, 0},
        };
        for (int[] v : volumes) {
            FieldRows x = new FieldRows();
            int groups = x.lay(v[0], v[1], v[2], v[3], v[4]);
            Due.holds("lay of " + v[0] + " blocks", groups > 0);
            int inBlock = (1024 << v[4]) / v[3];
            for (int group : new int[] {0, groups - 1}) {
                int first = group * v[2] + 1;
                int start = x.where(group, 5);
                recordAt(x, first, start, 0);
                recordAt(x, first + inBlock - 1, start, (inBlock - 1) * v[3]);
                recordAt(x, first + inBlock, start + 1, 0);
                recordAt(x, first + v[2] - 1, start + x.where(group, 6) - 1, (inBlock - 1) * v[3]);
            }
            recordAt(x, groups * v[2] + 1, BAD, BAD);
            recordAt(x, 0, BAD, BAD);
        }
    }

    private static void recordAt(FieldRows x, int file, int block, int at) {
        Due.is("record(" + file + ", false)", x.record(file, false), block);
        Due.is("record(" + file + ", true)", x.record(file, true), at);
    }

    /** "record .. BAD: row 0 is not right" */
    private static void recordRowNotRight() {
        for (int[] field : WRONG) {
            for (int file : new int[] {1, 11, 512}) {
                Due.refuses("record(" + file + ", false), wrong at " + field[0], wrong(field), x -> x.record(file, false));
                Due.refuses("record(" + file + ", true), wrong at " + field[0], wrong(field), x -> x.record(file, true));
            }
        }
    }
}
