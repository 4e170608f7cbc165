/** Promises 9, 10 and 11: groups, where and record. */
public final class WhereTest {
    private static final int BAD = FieldRows.BAD;

    public static void main(String[] args) {
        Due.changesNothing("groups, where or record", x -> { }, x -> newObject(x));
        smallBlocks();
        twoBlocksOfDescriptors();
        allHaveCopies();
        everyRecordHasItsPlace();
        byRowZero();
        wrongArguments();
        rowNotRight();
        Due.end();
    }

    private static void group(FieldRows x, int group, int... want) {
        for (int what = 0; what < want.length; what++) {
            Due.is("where(" + group + ", " + what + ")", x.where(group, what), want[what]);
        }
    }

    private static void newObject(FieldRows x) {
        Due.is("groups()", x.groups(), 4);
        group(x, 0, 0, 256, 1, 2, 3, 4, 8, 12);
        group(x, 1, 256, 256, 1, 258, 259, 260, 8, 12);
        group(x, 2, 512, 256, 0, 512, 513, 514, 8, 10);
        group(x, 3, 768, 256, 1, 770, 771, 772, 8, 12);
        Due.is("record(1, false)", x.record(1, false), 4);
        Due.is("record(1, true)", x.record(1, true), 0);
        Due.is("record(2, true)", x.record(2, true), 256);
        Due.is("record(16, false)", x.record(16, false), 4);
        Due.is("record(16, true)", x.record(16, true), 3840);
        Due.is("record(17, false)", x.record(17, false), 5);
        Due.is("record(17, true)", x.record(17, true), 0);
        Due.is("record(128, false)", x.record(128, false), 11);
        Due.is("record(129, false)", x.record(129, false), 260);
        Due.is("record(257, false)", x.record(257, false), 514);
        Due.is("record(512, false)", x.record(512, false), 779);
    }

    private static void smallBlocks() {
        FieldRows x = new FieldRows();
        Due.is("lay", x.lay(100000, 8192, 2048, 128, 0), 13);
        group(x, 0, 1, 8192, 1, 3, 4, 5, 256, 260);
        group(x, 2, 16385, 8192, 0, 16385, 16386, 16387, 256, 258);
        group(x, 12, 98305, 1695, 0, 98305, 98306, 98307, 256, 258);
        Due.is("lay of one short group", x.lay(8, 64, 16, 128, 0), 1);
        group(x, 0, 1, 7, 1, 3, 4, 5, 2, 6);
        Due.is("lay of one whole group", x.lay(65, 64, 16, 128, 0), 1);
        group(x, 0, 1, 64, 1, 3, 4, 5, 2, 6);
        Due.is("lay with shift 1", x.lay(3000, 1024, 32, 512, 1), 3);
        group(x, 2, 2048, 952, 0, 2048, 2049, 2050, 8, 10);
    }

    private static void twoBlocksOfDescriptors() {
        FieldRows x = new FieldRows();
        Due.is("lay of 32 groups", x.lay(2049, 64, 16, 128, 0), 32);
        group(x, 27, 1729, 64, 1, 1731, 1732, 1733, 2, 6);
        Due.is("lay of 33 groups", x.lay(2056, 64, 16, 128, 0), 33);
        group(x, 27, 1729, 64, 1, 1732, 1733, 1734, 2, 7);
        group(x, 32, 2049, 7, 0, 2049, 2050, 2051, 2, 4);
        Due.is("lay of 64 groups", x.lay(4097, 64, 16, 128, 0), 64);
        group(x, 49, 3137, 64, 1, 3140, 3141, 3142, 2, 7);
        group(x, 63, 4033, 64, 0, 4033, 4034, 4035, 2, 4);
        Due.is("lay of 64 groups of 2048", x.lay(4096, 64, 16, 128, 1), 64);
        group(x, 49, 3136, 64, 1, 3138, 3139, 3140, 1, 5);
    }

    private static void allHaveCopies() {
        FieldRows x = new FieldRows();
        x.put(0, 100, 4, 0);
        group(x, 2, 512, 256, 1, 514, 515, 516, 8, 12);
        Due.is("record(257, false)", x.record(257, false), 516);
    }

    private static void everyRecordHasItsPlace() {
        int[][] volumes = {
            {300, 64, 16, 128, 0}, {300, 64, 16, 1024, 0}, {400, 128, 24, 512, 1}, {1024, 256, 128, 256, 2},
        };
        for (int[] v : volumes) {
            FieldRows x = new FieldRows();
            int groups = x.lay(v[0], v[1], v[2], v[3], v[4]);
            Due.holds("there are groups", groups > 1);
            int size = 1024 << v[4];
            int file = 1;
            for (int group = 0; group < groups; group++) {
                x = new FieldRows();
                x.lay(v[0], v[1], v[2], v[3], v[4]);
                int block = x.where(group, 5);
                int at = 0;
                for (int k = 0; k < v[2]; k++) {
                    Due.is("record(" + file + ", false)", x.record(file, false), block);
                    Due.is("record(" + file + ", true)", x.record(file, true), at);
                    at += v[3];
                    block += at / size;
                    at %= size;
                    file++;
                }
                Due.is("the block behind the records", block, x.where(group, 5) + x.where(group, 6));
                Due.is("where(" + group + ", 7)", x.where(group, 7), block - x.where(group, 0));
            }
            Due.is("record(" + file + ", false)", x.record(file, false), BAD);
            Due.is("record(" + file + ", true)", x.record(file, true), BAD);
        }
    }

    private static void byRowZero() {
        FieldRows x = new FieldRows();
        Due.fill(x, 1, 255);
        Due.is("groups() by row 0", x.groups(), 4);
        Due.is("where(3, 5) by row 0", x.where(3, 5), 772);
        Due.is("record(512, true) by row 0", x.record(512, true), 3840);
    }

    private static void wrongArguments() {
        FieldRows x = new FieldRows();
        for (int wrong : new int[] {Integer.MIN_VALUE, -1, 8, 9, Integer.MAX_VALUE}) {
            Due.is("where(0, " + wrong + ")", x.where(0, wrong), BAD);
        }
        for (int wrong : new int[] {Integer.MIN_VALUE, -1, 4, 5, 64, Integer.MAX_VALUE}) {
            for (int what = 0; what < 8; what++) {
                Due.is("where(" + wrong + ", " + what + ")", x.where(wrong, what), BAD);
            }
        }
        for (int wrong : new int[] {Integer.MIN_VALUE, -1, 0, 513, Integer.MAX_VALUE}) {
            Due.is("record(" + wrong + ", false)", x.record(wrong, false), BAD);
            Due.is("record(" + wrong + ", true)", x.record(wrong, true), BAD);
        }
    }

    private static void rowNotRight() {
        for (int at : new int[] {0, 4, 24, 32, 40, 56, 88, 96, 232, 255}) {
            FieldRows x = new FieldRows();
            int was = x.poke(0, at, 253);
            if (at == 232) {
                x.poke(0, at + 1, 253);
            }
            Due.is("groups(), wrong at " + at, x.groups(), BAD);
            Due.is("where(0, 0), wrong at " + at, x.where(0, 0), BAD);
            Due.is("where(0, 6), wrong at " + at, x.where(0, 6), BAD);
            Due.is("record(1, false), wrong at " + at, x.record(1, false), BAD);
            Due.is("record(1, true), wrong at " + at, x.record(1, true), BAD);
            x.poke(0, at, was);
            if (at == 232) {
                x.poke(0, at + 1, 0);
            }
            Due.is("groups(), right again at " + at, x.groups(), 4);
        }
    }
}
