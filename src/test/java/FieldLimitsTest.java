/**
 * "Terms": when a row is right, one method for each field that the document names, in its order.
 * Each tells the last value that is allowed and the first that is not, on each side.
 */
public final class FieldLimitsTest {
    private static final int RIGHT = FieldRows.RIGHT;
    // Of at most four calls each, behind a layout of at most eight.
    private static final int VALUES_OF_ONE_OBJECT = 120;
    // As a field without sign: the largest int, the smallest int, and -1.
    private static final long[] BEYOND = {0x7fffffffL, 0x80000000L, 0xffffffffL};

    // One volume for each shift, then the smallest and the largest of all.
    private static final int[][] VOLUMES = {
        {100000, 8192, 2048, 128, 0}, {3000, 1024, 32, 512, 1}, {1024, 256, 128, 256, 2},
        {8, 64, 16, 128, 0}, {1 << 21, 1 << 15, 1 << 15, 1024, 2},
    };

    /** The fault that is due for a value. */
    interface Fault {
        long of(long value);
    }

    /** Sets what belongs together with a value, in row 0. */
    interface Setter {
        void set(FieldRows x, int value);
    }

    public static void main(String[] args) {
        magicAt56();
        revisionAt76();
        shiftAt24();
        shiftAgainAt28();
        firstAt20();
        groupBlocksAt32();
        groupBlocksAgainAt36();
        recordAt88();
        groupFilesAt40();
        blocksAt4();
        filesAt0();
        heldBackAt8();
        freeBlocksAt12();
        freeFilesAt16();
        stateAt58();
        firstFreeFileAt84();
        ownGroupAt90();
        journalAt224();
        orphanAt232();
        hashKindAt252();
        descriptorBytesAt254();
        Due.end();
    }

    private static Due.Run laid(int... v) {
        return x -> Due.holds("lay", x.lay(v[0], v[1], v[2], v[3], v[4]) > 0);
    }

    private static long groupsOf(int[] v) {
        FieldRows x = new FieldRows();
        return x.lay(v[0], v[1], v[2], v[3], v[4]);
    }

    /** The fault of each row with the value in it, and the other row's, which does not have it. */
    private static void value(Due.Run before, int at, int n, long value, long want) {
        for (int row = 0; row < 2; row++) {
            FieldRows x = new FieldRows();
            before.on(x);
            String when = " with " + value + " at " + at + " of row " + row;
            Due.is("put" + when, x.put(row, at, n, (int) value), 0);
            Due.is("fault(" + row + ")" + when, x.fault(row), want);
            Due.is("fault(" + (1 - row) + ")" + when, x.fault(1 - row), RIGHT);
        }
    }

    private static void values(Due.Run before, int at, int n, long want, long... values) {
        for (long value : values) {
            value(before, at, n, value, want);
        }
    }

    /** Each value from .. to, set in row 0. */
    private static void sweep(String what, Due.Run before, int from, int to, Setter setter, Fault due) {
        FieldRows x = null;
        for (int value = from; value <= to; value++) {
            if ((value - from) % VALUES_OF_ONE_OBJECT == 0) {
                x = new FieldRows();
                before.on(x);
            }
            setter.set(x, value);
            Due.is("fault(0) with " + value + " " + what, x.fault(0), due.of(value));
        }
    }

    private static void sweep(Due.Run before, int at, int n, int to, Fault due) {
        sweep("at " + at, before, 0, to, (x, value) -> x.put(0, at, n, value), due);
    }

    /** Only the one value is right: no bit of the field may be another. */
    private static void onlyOne(Due.Run before, int at, int n, long right, long fault) {
        value(before, at, n, right, RIGHT);
        for (int bit = 0; bit < 8 * n; bit++) {
            value(before, at, n, right ^ 1L << bit, fault);
        }
        values(before, at, n, fault, right + 1, right - 1 & (1L << 8 * n) - 1);
    }

    /** A field of 4 bytes that is right from least to most. */
    private static void range(Due.Run before, int at, long least, long most) {
        values(before, at, 4, RIGHT, least, least + 1, most - 1, most);
        values(before, at, 4, at, most + 1, most + 256, most + 65536, most + (1 << 24));
        values(before, at, 4, at, BEYOND);
        if (least > 0) {
            values(before, at, 4, at, 0, least - 1);
        }
    }

    /** "56: F(56, 2) is 61267." */
    private static void magicAt56() {
        for (int[] v : VOLUMES) {
            onlyOne(laid(v), 56, 2, 61267, 56);
        }
        sweep(x -> { }, 56, 2, 65535, value -> value == 61267 ? RIGHT : 56);
    }

    /** "76: F(76, 4) is 1." */
    private static void revisionAt76() {
        for (int[] v : VOLUMES) {
            onlyOne(laid(v), 76, 4, 1, 76);
            values(laid(v), 76, 4, 76, BEYOND);
        }
    }

    /** "24: the shift is 0 .. 2." */
    private static void shiftAt24() {
        for (int shift = 0; shift <= 2; shift++) {
            value(laid(VOLUMES[shift]), 24, 4, shift, RIGHT);
            for (long wrong : new long[] {3, 4, 32, 33, 64, 65, 66, 256, 65536, 1 << 24, 0x80000002L}) {
                values(laid(VOLUMES[shift]), 24, 4, 24, wrong, wrong + shift);
                bothShifts(VOLUMES[shift], wrong);
            }
            values(laid(VOLUMES[shift]), 24, 4, 24, BEYOND);
        }
    }

    // The second field of the shift goes with it, so that only the first one is wrong.
    private static void bothShifts(int[] volume, long shift) {
        FieldRows x = new FieldRows();
        laid(volume).on(x);
        x.put(0, 24, 4, (int) shift);
        x.put(0, 28, 4, (int) shift);
        Due.is("fault(0) with a shift of " + shift + " at 24 and 28", x.fault(0), 24);
    }

    /** "28: F(28, 4) is the shift." */
    private static void shiftAgainAt28() {
        for (int[] v : VOLUMES) {
            onlyOne(laid(v), 28, 4, v[4], 28);
            values(laid(v), 28, 4, 28, BEYOND);
        }
    }

    /** "20: first is 1 for shift 0, else 0." */
    private static void firstAt20() {
        for (int[] v : VOLUMES) {
            onlyOne(laid(v), 20, 4, v[4] == 0 ? 1 : 0, 20);
            values(laid(v), 20, 4, 20, 2, 0x7fffffffL, 0x80000000L, 0xffffffffL);
        }
    }

    /** "32: blocks in a group are 64 .. 8 size, and a multiple of 8." */
    private static void groupBlocksAt32() {
        for (int shift = 0; shift <= 2; shift++) {
            int most = 8 * (1024 << shift);
            Due.Run oneShortGroup = laid(64, 64, 32, 128, shift);
            sweep("at 32 and 36, shift " + shift, oneShortGroup, 0, most + 16, (x, value) -> {
                x.put(0, 32, 4, value);
                x.put(0, 36, 4, value);
            }, value -> value >= 64 && value <= most && value % 8 == 0 ? RIGHT : 32);
            values(oneShortGroup, 32, 4, 32, 0, 8, 56, 63, 65, most + 8, 65536 + 64, (1 << 24) + 64);
            values(oneShortGroup, 32, 4, 32, 0x7ffffff8L, 0x80000040L, 0xfffffff8L);
            values(oneShortGroup, 32, 4, 32, BEYOND);
        }
    }

    /** "36: F(36, 4) is that, too." */
    private static void groupBlocksAgainAt36() {
        for (int[] v : VOLUMES) {
            onlyOne(laid(v), 36, 4, v[1], 36);
            values(laid(v), 36, 4, 36, v[1] + 8, v[1] - 8, 0);
            values(laid(v), 36, 4, 36, BEYOND);
            // It is the second that is told, though both are such as may stand there.
            values(laid(v), 32, 4, 36, v[1] == 64 ? 72 : v[1] - 8);
        }
    }

    /** "88: a record has 128, 256, 512 or 1,024 bytes." */
    private static void recordAt88() {
        sweep(x -> { }, 88, 2, 65535, value ->
            value == 128 || value == 256 || value == 512 || value == 1024 ? RIGHT : 88);
        for (int right : new int[] {128, 256, 512, 1024}) {
            values(x -> { }, 88, 2, RIGHT, right);
            values(x -> { }, 88, 2, 88, right - 1, right + 1, right | 0x8000);
        }
    }

    /** "40: files in a group are 16 .. 8 size, a multiple of 8, and fill whole blocks with their records." */
    private static void groupFilesAt40() {
        for (int shift = 0; shift <= 2; shift++) {
            for (int record = 128; record <= 1024; record *= 2) {
                groupFilesAt40(record, shift);
            }
        }
    }

    private static void groupFilesAt40(int record, int shift) {
        int size = 1024 << shift;
        int most = 8 * size;
        int blocks = most + (shift == 0 ? 1 : 0);
        Due.Run oneWholeGroup = laid(blocks, most, 32, record, shift);
        sweep("at 40, record " + record + ", shift " + shift, oneWholeGroup, 0, most + 64, (x, value) -> {
            x.put(0, 40, 4, value);
            x.put(0, 0, 4, value);
        }, value -> {
            boolean inRange = value >= 16 && value <= most && value % 8 == 0;
            if (!inRange || value * record % size != 0) {
                return 40;
            }
            return 4 + value * record / size < most ? RIGHT : 4;
        });
        values(oneWholeGroup, 40, 4, 40, 0, 8, 15, 17, most + 8, most + 32, 65536 + 32, (1 << 24) + 32);
        values(oneWholeGroup, 40, 4, 40, 0x7fffffe0L, 0x80000020L, 0xffffffe0L);
        values(oneWholeGroup, 40, 4, 40, BEYOND);
    }

    /** "4: blocks are more than first, at most 2^24, the groups at most 64, and each group has more blocks .." */
    private static void blocksAt4() {
        // 6 fixed blocks behind block 0; 5 fixed ones from block 0 on.
        values(laid(8, 64, 16, 128, 0), 4, 4, RIGHT, 8, 9, 64, 65);
        values(laid(8, 64, 16, 128, 0), 4, 4, 4, 0, 1, 2, 6, 7);
        values(laid(64, 64, 16, 128, 1), 4, 4, RIGHT, 6, 7, 64);
        values(laid(64, 64, 16, 128, 1), 4, 4, 4, 0, 1, 4, 5);
        for (int[] v : VOLUMES) {
            long first = v[4] == 0 ? 1 : 0;
            values(laid(v), 4, 4, 4, 0, first, first + 1, first + 64L * v[1] + 1, first + 65L * v[1]);
            values(laid(v), 4, 4, 4, (1 << 24) - 1, 1 << 24, (1 << 24) + 1, 1 << 25);
            values(laid(v), 4, 4, 4, BEYOND);
        }
        noGroups(VOLUMES[0], 1);
        noGroups(VOLUMES[0], 0);
        noGroups(VOLUMES[2], 0);
    }

    // Their files would be right: 0 groups have 0.
    private static void noGroups(int[] volume, int blocks) {
        FieldRows x = new FieldRows();
        laid(volume).on(x);
        x.put(0, 0, 4, 0);
        x.put(0, 4, 4, blocks);
        Due.is("fault(0) without files and with blocks " + blocks, x.fault(0), 4);
    }

    /** "0: files are groups times those in a group." */
    private static void filesAt0() {
        for (int[] v : VOLUMES) {
            long files = groupsOf(v) * v[2];
            onlyOne(laid(v), 0, 4, files, 0);
            values(laid(v), 0, 4, 0, 0, files + v[2], files - v[2], v[2] - 1);
            values(laid(v), 0, 4, 0, BEYOND);
        }
    }

    /** "8: F(8, 4), blocks held back, are not above blocks." */
    private static void heldBackAt8() {
        for (int[] v : VOLUMES) {
            range(laid(v), 8, 0, v[0]);
        }
    }

    /** "12: F(12, 4), free blocks, likewise." */
    private static void freeBlocksAt12() {
        for (int[] v : VOLUMES) {
            range(laid(v), 12, 0, v[0]);
        }
    }

    /** "16: F(16, 4), free files, are not above files." */
    private static void freeFilesAt16() {
        for (int[] v : VOLUMES) {
            range(laid(v), 16, 0, groupsOf(v) * v[2]);
        }
    }

    /** "58: F(58, 2) is 1 or 3." */
    private static void stateAt58() {
        sweep(x -> { }, 58, 2, 65535, value -> value == 1 || value == 3 ? RIGHT : 58);
        values(x -> { }, 58, 2, RIGHT, 1, 3);
        values(x -> { }, 58, 2, 58, 0, 2, 4, 0x8001, 65535);
    }

    /** "84: F(84, 4) is 11 .. files." */
    private static void firstFreeFileAt84() {
        for (int[] v : VOLUMES) {
            range(laid(v), 84, 11, groupsOf(v) * v[2]);
        }
    }

    /** "90: F(90, 2) is below the groups, and that group has a copy." */
    private static void ownGroupAt90() {
        Due.Run most = laid(64 * 64 + 1, 64, 16, 128, 0);
        sweep(x -> { }, 90, 2, 65535, value -> value == 0 || value == 1 || value == 3 ? RIGHT : 90);
        sweep(most, 90, 2, 65535, value -> value == 0 || value == 1 || value == 3 || value == 5 || value == 7
            || value == 9 || value == 25 || value == 27 || value == 49 ? RIGHT : 90);
        sweep(all(most), 90, 2, 65535, value -> value < 64 ? RIGHT : 90);
        sweep(all(x -> { }), 90, 2, 65535, value -> value < 4 ? RIGHT : 90);
        // The last group's number, when it has a copy, and the number behind it.
        values(laid(1 + 49 * 64 + 8, 64, 16, 128, 0), 90, 2, RIGHT, 27, 49);
        values(laid(1 + 49 * 64 + 8, 64, 16, 128, 0), 90, 2, 90, 48, 50);
        values(laid(1 + 49 * 64, 64, 16, 128, 0), 90, 2, 90, 48, 49);
        values(laid(8, 64, 16, 128, 0), 90, 2, RIGHT, 0);
        values(laid(8, 64, 16, 128, 0), 90, 2, 90, 1, 3, 256, 65535);
    }

    private static Due.Run all(Due.Run before) {
        return x -> {
            before.on(x);
            x.put(0, 100, 4, 2);
            x.put(1, 100, 4, 2);
        };
    }

    private static Due.Run compatible(int features, int journal, int hash) {
        return x -> {
            for (int row = 0; row < 2; row++) {
                x.put(row, 92, 4, features);
                x.put(row, 224, 4, journal);
                x.put(row, 252, 1, hash);
            }
        };
    }

    /** "224: F(224, 4) is 8, if bit 2 of the compatible ones is set, else 0." */
    private static void journalAt224() {
        onlyOne(compatible(36, 8, 1), 224, 4, 8, 224);
        onlyOne(compatible(4, 8, 0), 224, 4, 8, 224);
        onlyOne(compatible(32, 0, 1), 224, 4, 0, 224);
        onlyOne(compatible(0, 0, 0), 224, 4, 0, 224);
        values(compatible(36, 8, 1), 224, 4, 224, BEYOND);
        values(compatible(0, 0, 0), 224, 4, 224, BEYOND);
    }

    /** "232: F(232, 4) is not above files." */
    private static void orphanAt232() {
        for (int[] v : VOLUMES) {
            range(laid(v), 232, 0, groupsOf(v) * v[2]);
        }
    }

    /** "252: F(252, 1) is 1, if bit 5 of the compatible ones is set, else 0." */
    private static void hashKindAt252() {
        sweep(compatible(36, 8, 1), 252, 1, 255, value -> value == 1 ? RIGHT : 252);
        sweep(compatible(32, 0, 1), 252, 1, 255, value -> value == 1 ? RIGHT : 252);
        sweep(compatible(4, 8, 0), 252, 1, 255, value -> value == 0 ? RIGHT : 252);
        sweep(compatible(0, 0, 0), 252, 1, 255, value -> value == 0 ? RIGHT : 252);
        // The byte behind it is not part of the field.
        values(compatible(36, 8, 1), 253, 1, RIGHT, 0, 1, 255);
    }

    /** "254: F(254, 2) is 0." */
    private static void descriptorBytesAt254() {
        sweep(x -> { }, 254, 2, 65535, value -> value == 0 ? RIGHT : 254);
        onlyOne(x -> { }, 254, 2, 0, 254);
        values(x -> { }, 256, 1, RIGHT, 255);
    }
}
