/** Promise 6: fault. */
public final class FaultTest {
    private static final int RIGHT = FieldRows.RIGHT;

    // at, n, and values that are right or wrong there in a new object, each with its fault.
    private static final long[][] ONE_FIELD = {
        {56, 2, 61267, RIGHT, 61266, 56, 61268, 56, 0, 56},
        {76, 4, 1, RIGHT, 0, 76, 2, 76, 257, 76, 0x01000001, 76},
        {24, 4, 3, 24, 0, 28, 1, 28, 0xffffffffL, 24, 66, 24, 0x80000002L, 24},
        {28, 4, 0, 28, 1, 28, 3, 28, 0x01000002, 28},
        {20, 4, 1, 20, 0xffffffffL, 20, 0x01000000, 20},
        {32, 4, 248, 36, 264, 36, 64, 36, 56, 32, 257, 32, 32768, 36, 32776, 32, 0, 32, 0xfffffff8L, 32},
        {36, 4, 255, 36, 0, 36, 0x01000100, 36},
        {88, 2, 0, 88, 64, 88, 128, RIGHT, 129, 88, 512, RIGHT, 1024, RIGHT, 384, 88, 2048, 88, 65535, 88},
        {40, 4, 8, 40, 16, 0, 120, 40, 132, 40, 112, 0, 144, 0, 0, 40, 32768, 4, 32784, 40, 0xfffffff0L, 40},
        {4, 4, 0, 4, 1, 4, 12, 4, 13, 0, 1023, RIGHT, 1025, 4, 1034, 4, 1035, 0, 0xffffffffL, 4, 16777216, 4, 768, 0, 769, 4},
        {0, 4, 511, 0, 513, 0, 0, 0, 0x01000200, 0, 0xffffffffL, 0},
        {8, 4, 1, RIGHT, 1024, RIGHT, 1025, 8, 0xffffffffL, 8},
        {12, 4, 1, RIGHT, 1024, RIGHT, 1025, 12, 0x80000000L, 12},
        {16, 4, 1, RIGHT, 512, RIGHT, 513, 16, 0xffffffffL, 16},
        {58, 2, 0, 58, 2, 58, 3, RIGHT, 4, 58, 257, 58, 65535, 58},
        {84, 4, 10, 84, 12, RIGHT, 512, RIGHT, 513, 84, 0, 84, 0xffffffffL, 84},
        {90, 2, 1, RIGHT, 2, 90, 3, RIGHT, 4, 90, 5, 90, 256, 90, 65535, 90},
        {92, 4, 32, 224, 4, 252, 0, 224, 37, 2000, 44, 2003, 0xffffffffL, 2000, 0x80000024L, 2031, 100, 2006},
        {96, 4, 70, RIGHT, 64, 96, 2, 96, 4, 96, 0, 96, 3, 2032, 1, 2032, 0x80000000L, 2063, 74, 2035},
        {100, 4, 0, RIGHT, 1, RIGHT, 2, RIGHT, 4, 2066, 7, 2066, 0x80000003L, 2095, 0x40000000L, 2094},
        {224, 4, 0, 224, 7, 224, 9, 224, 0x01000008, 224},
        {232, 4, 1, RIGHT, 512, RIGHT, 513, 232, 0xffffffffL, 232},
        {252, 1, 0, 252, 2, 252, 255, 252},
        {253, 1, 255, RIGHT},
        {254, 2, 1, 254, 256, 254, 65535, 254},
    };

    // The order in which a row is looked through: at, n, and a value that is wrong there.
    private static final long[][] ORDER = {
        {56, 2, 0, 56}, {76, 4, 0, 76}, {24, 4, 7, 24}, {28, 4, 7, 28}, {20, 4, 7, 20}, {32, 4, 7, 32},
        {36, 4, 7, 36}, {88, 2, 7, 88}, {40, 4, 7, 40}, {4, 4, 0, 4}, {0, 4, 7, 0}, {8, 4, -1, 8},
        {12, 4, -1, 12}, {16, 4, -1, 16}, {58, 2, 7, 58}, {84, 4, 7, 84}, {90, 2, 7, 90},
        {92, 4, 128 + 36, 2007}, {96, 4, 2, 96}, {100, 4, 128 + 3, 2071}, {224, 4, 7, 224}, {232, 4, -1, 232},
        {252, 1, 7, 252}, {254, 2, 7, 254},
    };

    public static void main(String[] args) {
        oneField();
        order();
        features();
        firstBlock();
        copiesTakeRoom();
        manyDescriptors();
        fieldsNotLookedAt();
        noSuchRow();
        Due.end();
    }

    private static void oneField() {
        for (long[] field : ONE_FIELD) {
            for (int k = 2; k < field.length; k += 2) {
                for (int row = 0; row < 2; row++) {
                    oneField(row, (int) field[0], (int) field[1], (int) field[k], field[k + 1]);
                }
            }
        }
    }

    private static void oneField(int row, int at, int n, int v, long want) {
        String when = " with " + v + " at " + at;
        Due.changesNothing("fault(" + row + ")" + when, x -> x.put(row, at, n, v), x -> {
            Due.is("fault(" + row + ")" + when, x.fault(row), want);
            Due.is("the other row's fault" + when, x.fault(1 - row), RIGHT);
            Due.is("groups()" + when, x.groups() == FieldRows.BAD ? 1 : 0, row == 0 && want != RIGHT ? 1 : 0);
        });
    }

    private static void order() {
        for (int first = 0; first < ORDER.length; first++) {
            for (int second = first + 1; second < ORDER.length; second++) {
                FieldRows x = new FieldRows();
                spoil(x, ORDER[second]);
                spoil(x, ORDER[first]);
                Due.is("fault(1), spoilt at " + ORDER[first][0] + " and " + ORDER[second][0],
                    x.fault(1), ORDER[first][3]);
            }
        }
        FieldRows x = new FieldRows();
        for (int k = ORDER.length - 1; k >= 0; k--) {
            spoil(x, ORDER[k]);
            Due.is("fault(1), spoilt from " + ORDER[k][0] + " on", x.fault(1), ORDER[k][3]);
        }
    }

    private static void spoil(FieldRows x, long[] field) {
        x.put(1, (int) field[0], (int) field[1], (int) field[2]);
    }

    private static void features() {
        int[] right = {36, 66, 3};
        int[] listed = {36, 70, 3};
        for (int word = 0; word < 3; word++) {
            for (int bit = 0; bit < 32; bit++) {
                FieldRows x = new FieldRows();
                int at = 92 + 4 * word;
                x.put(0, at, 4, right[word] | 1 << bit);
                long want = (listed[word] >> bit & 1) == 1 ? RIGHT : 2000 + 32 * word + bit;
                Due.is("fault(0) with bit " + bit + " of word " + word, x.fault(0), want);
                // A later word's bits do not come before this one's.
                for (int later = word + 1; later < 3; later++) {
                    x.put(0, 92 + 4 * later, 4, 1 << 31);
                    if (want != RIGHT) {
                        Due.is("fault(0) with bit " + bit + " of word " + word + " and later ones",
                            x.fault(0), want);
                    }
                }
            }
        }
        FieldRows x = new FieldRows();
        x.put(0, 92, 4, 0);
        x.put(0, 224, 4, 0);
        x.poke(0, 252, 0);
        Due.is("fault(0) without compatible ones", x.fault(0), RIGHT);
        x.put(0, 224, 4, 8);
        Due.is("fault(0) with a journal that is not there", x.fault(0), 224);
        x.put(0, 224, 4, 0);
        x.poke(0, 252, 1);
        Due.is("fault(0) with a hash that is not there", x.fault(0), 252);
    }

    private static void firstBlock() {
        FieldRows x = new FieldRows();
        x.lay(8193, 8192, 1024, 128, 0);
        x.put(0, 20, 4, 0);
        Due.is("fault(0), first 0 for shift 0", x.fault(0), 20);
        x.put(0, 20, 4, 2);
        Due.is("fault(0), first 2 for shift 0", x.fault(0), 20);
        x.put(0, 20, 4, 1);
        Due.is("fault(0), first 1 for shift 0", x.fault(0), RIGHT);
        x.put(0, 4, 4, 1);
        Due.is("fault(0), no block behind first", x.fault(0), 4);
        x.lay(16384, 16384, 1024, 128, 1);
        x.put(0, 20, 4, 1);
        Due.is("fault(0), first 1 for shift 1", x.fault(0), 20);
    }

    private static void copiesTakeRoom() {
        FieldRows x = new FieldRows();
        Due.is("lay with 13 blocks in group 2", x.lay(512 + 13, 256, 128, 256, 2), 3);
        x.put(0, 100, 4, 2);
        Due.is("fault(0), 12 of 13 fixed", x.fault(0), RIGHT);
        Due.is("lay with 12 blocks in group 2", x.lay(512 + 12, 256, 128, 256, 2), 3);
        Due.is("fault(0), 10 of 12 fixed", x.fault(0), RIGHT);
        x.put(0, 100, 4, 2);
        Due.is("fault(0), 12 of 12 fixed", x.fault(0), 4);
        // The group's room is looked at before the features are.
        x.put(0, 100, 4, -2);
        Due.is("fault(0), 12 of 12 fixed, features not listed", x.fault(0), 4);
        x.put(0, 100, 4, -1);
        Due.is("fault(0), 10 of 12 fixed, features not listed", x.fault(0), 2066);
    }

    private static void manyDescriptors() {
        FieldRows x = new FieldRows();
        Due.is("lay of 32 groups", x.lay(1 + 31 * 64 + 8, 64, 16, 128, 0), 32);
        x.put(0, 100, 4, 2);
        Due.is("fault(0), 32 groups and copies in all", x.fault(0), RIGHT);
        Due.is("lay of 33 groups", x.lay(1 + 32 * 64 + 7, 64, 16, 128, 0), 33);
        x.put(0, 100, 4, 2);
        Due.is("fault(0), 33 groups and copies in all", x.fault(0), 4);
        x.put(0, 4, 4, 1 + 32 * 64 + 8);
        Due.is("fault(0), 33 groups with a block more", x.fault(0), RIGHT);
        x.put(0, 90, 2, 32);
        Due.is("fault(0), the copy of the last group", x.fault(0), RIGHT);
        x.put(0, 90, 2, 33);
        Due.is("fault(0), the copy of a group that is not", x.fault(0), 90);
    }

    private static void fieldsNotLookedAt() {
        FieldRows x = new FieldRows();
        int[][] free = {{44, 56}, {60, 76}, {80, 84}, {104, 224}, {228, 232}, {236, 252}, {256, 1024}};
        for (int[] range : free) {
            for (int at = range[0]; at < range[1]; at += 4) {
                x.put(0, at, 4, -1);
            }
        }
        x.poke(0, 253, 255);
        Due.is("fault(0), free bytes are 255", x.fault(0), RIGHT);
    }

    private static void noSuchRow() {
        FieldRows x = new FieldRows();
        for (int wrong : new int[] {Integer.MIN_VALUE, -1, 2, Integer.MAX_VALUE}) {
            Due.is("fault(" + wrong + ")", x.fault(wrong), FieldRows.BAD);
        }
    }
}
