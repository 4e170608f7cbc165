import java.util.Arrays;
import java.util.Random;

/**
 * Many runs of calls, with a fixed seed, beside a second and slower telling of the document:
 * every answer and every byte must agree, and nothing may be thrown.
 */
public final class ModelTest {
    private static final int RUNS = 20000;
    // Of at most four calls each: with those that read a row behind them an object has 456 calls.
    private static final int STEPS = 50;
    private static final int[] ODD = {
        Integer.MIN_VALUE, -65536, -256, -1, 0, 1, 2, 3, 4, 7, 8, 9, 16, 63, 64, 65, 127, 128, 255, 256, 512,
        1020, 1021, 1022, 1023, 1024, 8192, 32768, 65535, 65536, 65664, 1 << 24, Integer.MAX_VALUE,
    };
    private static final int[] PLACES = {
        0, 4, 8, 12, 16, 20, 24, 28, 32, 36, 40, 56, 58, 76, 84, 88, 90, 92, 96, 100, 224, 232, 252, 254,
    };

    /** The document once more, each number reckoned by counting rather than by formulas. */
    private static final class Model {
        int[][] rows = new int[2][1024];

        Model() {
            lay(1024, 256, 128, 256, 2);
        }

        static long f(int[] row, int at, int n) {
            long value = 0;
            for (int i = 0; i < n; i++) {
                value += (long) row[at + i] << 8 * i;
            }
            return value;
        }

        static void set(int[] row, int at, int n, long value) {
            for (int i = 0; i < n; i++) {
                row[at + i] = (int) (value >>> 8 * i) & 255;
            }
        }

        static int countGroups(int[] row) {
            long inGroup = f(row, 32, 4);
            int count = 0;
            for (long at = f(row, 20, 4); at < f(row, 4, 4) && count < 1000; at += inGroup) {
                count++;
            }
            return count;
        }

        static boolean copyIn(int[] row, long group) {
            if ((row[100] & 1) == 0 || group < 2) {
                return true;
            }
            for (int base : new int[] {3, 5, 7}) {
                long rest = group;
                while (rest % base == 0) {
                    rest /= base;
                }
                if (rest == 1) {
                    return true;
                }
            }
            return false;
        }

        static long size(int[] row) {
            return new long[] {1024, 2048, 4096}[(int) f(row, 24, 4)];
        }

        static long start(int[] row, long group) {
            return f(row, 20, 4) + group * f(row, 32, 4);
        }

        static long length(int[] row, long group) {
            return group == countGroups(row) - 1 ? f(row, 4, 4) - start(row, group) : f(row, 32, 4);
        }

        static long inCopy(int[] row, long group) {
            if (!copyIn(row, group)) {
                return 0;
            }
            long blocks = 1;
            for (long room = 0; room < 32L * countGroups(row); room += size(row)) {
                blocks++;
            }
            return blocks;
        }

        static long inRecords(int[] row) {
            return f(row, 40, 4) * f(row, 88, 2) / size(row);
        }

        static long fixed(int[] row, long group) {
            return inCopy(row, group) + 2 + inRecords(row);
        }

        static boolean room(int[] row) {
            if (f(row, 4, 4) <= f(row, 20, 4) || f(row, 4, 4) > 16777216 || countGroups(row) > 64) {
                return false;
            }
            boolean all = true;
            for (int group = 0; group < countGroups(row); group++) {
                all &= length(row, group) > fixed(row, group);
            }
            return all;
        }

        static int unlisted(int[] row, int word) {
            String[] listed = {"2 5", "1 2 6", "0 1"};
            for (int bit = 0; bit < 32; bit++) {
                boolean set = (f(row, 92 + 4 * word, 4) >> bit) % 2 == 1;
                if (set && !Arrays.asList(listed[word].split(" ")).contains(Integer.toString(bit))) {
                    return 2000 + 32 * word + bit;
                }
            }
            return -2;
        }

        static int faultIn(int[] row) {
            if (f(row, 56, 2) != 61267) return 56;
            if (f(row, 76, 4) != 1) return 76;
            long shift = f(row, 24, 4);
            if (shift != 0 && shift != 1 && shift != 2) return 24;
            if (f(row, 28, 4) != shift) return 28;
            if (f(row, 20, 4) != (shift == 0 ? 1 : 0)) return 20;
            long perGroup = f(row, 32, 4);
            if (perGroup < 64 || perGroup > 8 * size(row) || perGroup % 8 != 0) return 32;
            if (f(row, 36, 4) != perGroup) return 36;
            long record = f(row, 88, 2);
            if (record != 128 && record != 256 && record != 512 && record != 1024) return 88;
            long inGroup = f(row, 40, 4);
            if (inGroup < 16 || inGroup > 8 * size(row) || inGroup % 8 != 0) return 40;
            if (inGroup * record % size(row) != 0) return 40;
            if (!room(row)) return 4;
            long files = f(row, 0, 4);
            if (files != countGroups(row) * inGroup) return 0;
            if (f(row, 8, 4) > f(row, 4, 4)) return 8;
            if (f(row, 12, 4) > f(row, 4, 4)) return 12;
            if (f(row, 16, 4) > files) return 16;
            if (f(row, 58, 2) != 1 && f(row, 58, 2) != 3) return 58;
            if (f(row, 84, 4) < 11 || f(row, 84, 4) > files) return 84;
            if (f(row, 90, 2) >= countGroups(row) || !copyIn(row, f(row, 90, 2))) return 90;
            if (unlisted(row, 0) != -2) return unlisted(row, 0);
            if (unlisted(row, 1) != -2) return unlisted(row, 1);
            if ((row[96] & 2) == 0 || (row[96] & 64) == 0) return 96;
            if (unlisted(row, 2) != -2) return unlisted(row, 2);
            if (f(row, 224, 4) != ((row[92] & 4) != 0 ? 8 : 0)) return 224;
            if (f(row, 232, 4) > files) return 232;
            if (row[252] != ((row[92] & 32) != 0 ? 1 : 0)) return 252;
            return f(row, 254, 2) != 0 ? 254 : -2;
        }

        int lay(int blocks, int perGroup, int files, int record, int shift) {
            if (record < 0 || record > 1024 || perGroup < 64) {
                return -1;
            }
            int[] row = new int[1024];
            int[][] fields = {
                {4, 4, blocks}, {20, 4, shift == 0 ? 1 : 0}, {24, 4, shift}, {28, 4, shift}, {32, 4, perGroup},
                {36, 4, perGroup}, {40, 4, files}, {54, 2, 65535}, {56, 2, 61267}, {58, 2, 1}, {76, 4, 1},
                {84, 4, 11}, {88, 2, record}, {92, 4, 36}, {96, 4, 66}, {100, 4, 3}, {224, 4, 8}, {252, 1, 1},
            };
            for (int[] field : fields) {
                set(row, field[0], field[1], field[2]);
            }
            set(row, 0, 4, (long) countGroups(row) * files);
            if (faultIn(row) != -2) {
                return -1;
            }
            rows = new int[][] {row, row.clone()};
            return countGroups(row);
        }

        boolean field(int row, int at, int n) {
            return (row == 0 || row == 1) && (n == 1 || n == 2 || n == 4) && at >= 0 && (long) at + n <= 1024;
        }

        int poke(int row, int i, int v) {
            if (!field(row, i, 1) || v < 0 || v > 255) {
                return -1;
            }
            int was = rows[row][i];
            rows[row][i] = v;
            return was;
        }

        int put(int row, int at, int n, int v) {
            if (!field(row, at, n)) {
                return -1;
            }
            set(rows[row], at, n, v);
            return 0;
        }

        long get(int row, int at, int n) {
            return field(row, at, n) ? f(rows[row], at, n) : -1;
        }

        int fault(int row) {
            return row == 0 || row == 1 ? faultIn(rows[row]) : -1;
        }

        boolean group(int group) {
            return faultIn(rows[0]) == -2 && group >= 0 && group < countGroups(rows[0]);
        }

        int copy(int group) {
            if (!group(group) || !copyIn(rows[0], group)) {
                return -1;
            }
            rows[1] = rows[0].clone();
            set(rows[1], 90, 2, group);
            return 0;
        }

        int differs() {
            int[] a = rows[0].clone();
            int[] b = rows[1].clone();
            int[][] left = {{12, 20}, {44, 54}, {58, 60}, {90, 92}, {232, 236}};
            for (int[] range : left) {
                Arrays.fill(a, range[0], range[1], 0);
                Arrays.fill(b, range[0], range[1], 0);
            }
            int at = Arrays.mismatch(a, b);
            return at < 0 ? -2 : at;
        }

        int groups() {
            return faultIn(rows[0]) == -2 ? countGroups(rows[0]) : -1;
        }

        int where(int group, int what) {
            if (!group(group) || what < 0 || what > 7) {
                return -1;
            }
            int[] row = rows[0];
            long bitmap = start(row, group) + inCopy(row, group);
            long[] all = {
                start(row, group), length(row, group), copyIn(row, group) ? 1 : 0, bitmap, bitmap + 1, bitmap + 2,
                inRecords(row), fixed(row, group),
            };
            return (int) all[what];
        }

        int record(int file, boolean place) {
            if (faultIn(rows[0]) != -2 || file < 1 || file > f(rows[0], 0, 4)) {
                return -1;
            }
            long left = file - 1;
            int group = 0;
            while (left >= f(rows[0], 40, 4)) {
                left -= f(rows[0], 40, 4);
                group++;
            }
            long at = left * f(rows[0], 88, 2);
            return (int) (place ? at % size(rows[0]) : where(group, 5) + at / size(rows[0]));
        }
    }

    private static final Random RANDOM = new Random(20261115);

    private static int one(int... of) {
        return of[RANDOM.nextInt(of.length)];
    }

    private static int odd() {
        return RANDOM.nextInt(8) == 0 ? RANDOM.nextInt() : one(ODD);
    }

    private static int row() {
        return RANDOM.nextInt(40) == 0 ? odd() : RANDOM.nextInt(2);
    }

    public static void main(String[] args) {
        for (int run = 0; run < RUNS; run++) {
            FieldRows x = new FieldRows();
            Model model = new Model();
            for (int step = 0; step < STEPS; step++) {
                step(x, model, "run " + run + ", step " + step);
            }
            int row = run % 2;
            for (int at = 0; at < 1024; at += 4) {
                Due.is("run " + run + ", get(" + row + ", " + at + ", 4)", x.get(row, at, 4), model.get(row, at, 4));
            }
        }
        Due.end();
    }

    private static void step(FieldRows x, Model model, String call) {
        int a = row();
        switch (RANDOM.nextInt(16)) {
            case 0: lay(x, model, call); break;
            case 1: {
                int i = RANDOM.nextInt(4) == 0 ? odd() : RANDOM.nextInt(1030);
                int v = RANDOM.nextInt(4) == 0 ? odd() : RANDOM.nextInt(260);
                // Mostly undone at once, so that rows do not stay spoilt for good.
                int was = model.poke(a, i, v);
                Due.is(call + " poke", x.poke(a, i, v), was);
                Due.is(call + " fault", x.fault(a), model.fault(a));
                Due.is(call + " differs", x.differs(), model.differs());
                if (RANDOM.nextInt(8) != 0 && was >= 0) {
                    Due.is(call + " poke back", x.poke(a, i, was), model.poke(a, i, was));
                }
                break;
            }
            case 2: case 3: case 4: put(x, model, call, a); break;
            case 5: {
                int at = odd();
                int n = odd();
                Due.is(call + " odd put", x.put(a, at, n, 5), model.put(a, at, n, 5));
                Due.is(call + " odd get", x.get(a, at, n), model.get(a, at, n));
                break;
            }
            case 6: {
                int at = RANDOM.nextInt(1026);
                int n = one(1, 2, 4);
                Due.is(call + " get", x.get(a, at, n), model.get(a, at, n));
                break;
            }
            case 7: Due.is(call + " fault", x.fault(a), model.fault(a)); break;
            case 8: {
                int group = RANDOM.nextInt(4) == 0 ? odd() : RANDOM.nextInt(66);
                Due.is(call + " copy", x.copy(group), model.copy(group));
                break;
            }
            case 9: Due.is(call + " differs", x.differs(), model.differs()); break;
            case 10: Due.is(call + " groups", x.groups(), model.groups()); break;
            case 11: case 12: case 13: {
                int group = RANDOM.nextInt(6) == 0 ? odd() : RANDOM.nextInt(Math.max(1, model.groups() + 1));
                int what = RANDOM.nextInt(12) == 0 ? odd() : RANDOM.nextInt(8);
                Due.is(call + " where", x.where(group, what), model.where(group, what));
                break;
            }
            default: {
                int most = (int) Math.min(1 << 22, model.get(0, 0, 4) + 2);
                int file = RANDOM.nextInt(6) == 0 ? odd() : RANDOM.nextInt(most);
                boolean place = RANDOM.nextBoolean();
                Due.is(call + " record", x.record(file, place), model.record(file, place));
            }
        }
    }

    private static void lay(FieldRows x, Model model, String call) {
        int shift = RANDOM.nextInt(20) == 0 ? odd() : RANDOM.nextInt(3);
        int perGroup = RANDOM.nextInt(20) == 0 ? odd() : 8 * (7 + RANDOM.nextInt(one(4, 60, 1030, 4100)));
        int files = RANDOM.nextInt(20) == 0 ? odd() : 8 * (1 + RANDOM.nextInt(one(4, 60, 1030)));
        int record = RANDOM.nextInt(20) == 0 ? odd() : one(128, 256, 512, 1024);
        int blocks = RANDOM.nextInt(20) == 0 ? odd() : RANDOM.nextInt(one(1, 4, 20, 66)) * perGroup + RANDOM.nextInt(300);
        Due.is(call + " lay(" + blocks + ", " + perGroup + ", " + files + ", " + record + ", " + shift + ")",
            x.lay(blocks, perGroup, files, record, shift), model.lay(blocks, perGroup, files, record, shift));
    }

    private static void put(FieldRows x, Model model, String call, int row) {
        int at = one(PLACES);
        int n = at == 252 ? 1 : at == 56 || at == 58 || at == 88 || at == 90 || at == 254 ? 2 : 4;
        int was = (int) model.get(row == 1 ? 1 : 0, at, n);
        int v = one(odd(), was + 1, was - 1, was + 8, was ^ 1 << RANDOM.nextInt(32), RANDOM.nextInt(1100));
        Due.is(call + " put", x.put(row, at, n, v), model.put(row, at, n, v));
        Due.is(call + " fault " + at + " " + v, x.fault(row), model.fault(row));
        if (RANDOM.nextInt(6) != 0) {
            Due.is(call + " put back", x.put(row, at, n, was), model.put(row, at, n, was));
        }
    }
}
