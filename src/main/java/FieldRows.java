/** The super block of a volume in its on-disk form, in two rows of bytes: see README.md. */
public final class FieldRows {
    public static final int BAD = -1, RIGHT = -2;

    private static final int ROW_BYTES = 1024;
    private static final int SMALLEST_BLOCK = 1024;

    // Where each field stands in a row; a fault is told by the same number.
    private static final int FILES_AT = 0;
    private static final int BLOCKS_AT = 4;
    private static final int HELD_BACK_AT = 8;
    private static final int FREE_BLOCKS_AT = 12;
    private static final int FREE_FILES_AT = 16;
    private static final int FIRST_AT = 20;
    private static final int SHIFT_AT = 24;
    private static final int SHIFT_AGAIN_AT = 28;
    private static final int GROUP_BLOCKS_AT = 32;
    private static final int GROUP_BLOCKS_AGAIN_AT = 36;
    private static final int GROUP_FILES_AT = 40;
    private static final int MOUNTS_ALLOWED_AT = 54;
    private static final int MAGIC_AT = 56;
    private static final int STATE_AT = 58;
    private static final int REVISION_AT = 76;
    private static final int FIRST_FREE_FILE_AT = 84;
    private static final int RECORD_BYTES_AT = 88;
    private static final int OWN_GROUP_AT = 90;
    private static final int COMPATIBLE_AT = 92;
    private static final int NEEDED_AT = 96;
    private static final int FOR_WRITING_AT = 100;
    private static final int JOURNAL_FILE_AT = 224;
    private static final int ORPHAN_FILE_AT = 232;
    private static final int HASH_KIND_AT = 252;
    private static final int DESCRIPTOR_BYTES_AT = 254;

    private static final int MAGIC = 61267;
    private static final int REVISION = 1;
    private static final int STATE_CLEAN = 1;
    private static final int STATE_CLEAN_WITH_ERRORS = 3;
    private static final int FIRST_FREE_FILE = 11;
    private static final int JOURNAL_FILE = 8;
    private static final int HASH_KIND = 1;
    private static final int TWO_BYTES_FULL = 65535;

    private static final int MOST_SHIFT = 2;
    private static final int LEAST_GROUP_BLOCKS = 64;
    private static final int LEAST_GROUP_FILES = 16;
    private static final int MOST_BLOCKS = 1 << 24;
    private static final int MOST_GROUPS = 64;
    private static final int DESCRIPTOR_BYTES = 32;

    private static final int JOURNAL_BIT = 1 << 2;
    private static final int HASH_BIT = 1 << 5;
    private static final int NEEDED_ALWAYS = 1 << 1 | 1 << 6;
    private static final int FEW_COPIES_BIT = 1;
    private static final int LISTED_COMPATIBLE = JOURNAL_BIT | HASH_BIT;
    private static final int LISTED_NEEDED = NEEDED_ALWAYS | 1 << 2;
    private static final int LISTED_FOR_WRITING = FEW_COPIES_BIT | 1 << 1;
    private static final int UNLISTED_FEATURE = 2000;

    // 0, 1 and the powers of 3, 5 and 7 below MOST_GROUPS.
    private static final int[] FEW_COPIES = {0, 1, 3, 5, 7, 9, 25, 27, 49};

    // From, to (both within), from, to ..: the bytes that a copy need not follow.
    private static final int[] NOT_FOLLOWED = {12, 19, 44, 53, 58, 59, 90, 91, 232, 235};

    private final Row row0 = new Row();
    private final Row row1 = new Row();
    // A row of its own, so that a refused lay has touched neither of the two.
    private final Row trial = new Row();
    // Holds the numbers of the row that was looked through last: each call looks before it uses them.
    private final Volume volume = new Volume();

    public FieldRows() {
        lay(1024, 256, 128, 256, 2);
    }

    public int lay(int blocks, int perGroup, int files, int record, int shift) {
        // Its field has 2 bytes and would cut a longer number down to another one.
        if (record < 0 || record > TWO_BYTES_FULL) {
            return BAD;
        }
        trial.clear();
        trial.writeConstants();
        trial.write(BLOCKS_AT, 4, blocks);
        trial.write(FIRST_AT, 4, firstFor(shift));
        trial.write(SHIFT_AT, 4, shift);
        trial.write(SHIFT_AGAIN_AT, 4, shift);
        trial.write(GROUP_BLOCKS_AT, 4, perGroup);
        trial.write(GROUP_BLOCKS_AGAIN_AT, 4, perGroup);
        trial.write(GROUP_FILES_AT, 4, files);
        trial.write(RECORD_BYTES_AT, 2, record);
        volume.readNumbers(trial);
        trial.write(FILES_AT, 4, volume.groupCount * files);
        if (volume.firstFaultOf(trial) != RIGHT) {
            return BAD;
        }
        row0.takeAll(trial);
        row1.takeAll(trial);
        return (int) volume.groupCount;
    }

    public int poke(int row, int i, int v) {
        Row chosen = rowOf(row);
        if (chosen == null || !isField(i, 1) || v < 0 || v > 255) {
            return BAD;
        }
        int before = (int) chosen.field(i, 1);
        chosen.write(i, 1, v);
        return before;
    }

    public int put(int row, int at, int n, int v) {
        Row chosen = rowOf(row);
        if (chosen == null || !isField(at, n)) {
            return BAD;
        }
        chosen.write(at, n, v);
        return 0;
    }

    public long get(int row, int at, int n) {
        Row chosen = rowOf(row);
        return chosen == null ? BAD : chosen.field(at, n);
    }

    public int fault(int row) {
        Row chosen = rowOf(row);
        return chosen == null ? BAD : volume.firstFaultOf(chosen);
    }

    public int copy(int group) {
        if (!isGroupOfRightRow(group) || !volume.hasCopy(group)) {
            return BAD;
        }
        row1.takeAll(row0);
        row1.write(OWN_GROUP_AT, 2, group);
        return 0;
    }

    public int differs() {
        for (int i = 0; i < ROW_BYTES; i++) {
            if (row0.field(i, 1) != row1.field(i, 1) && isFollowed(i)) {
                return i;
            }
        }
        return RIGHT;
    }

    public int groups() {
        return volume.firstFaultOf(row0) == RIGHT ? (int) volume.groupCount : BAD;
    }

    public int where(int group, int what) {
        if (!isGroupOfRightRow(group)) {
            return BAD;
        }
        switch (what) {
            case 0: return (int) volume.groupStart(group);
            case 1: return (int) volume.groupLength(group);
            case 2: return volume.hasCopy(group) ? 1 : 0;
            case 3: return (int) volume.blockBitmap(group);
            case 4: return (int) volume.fileBitmap(group);
            case 5: return (int) volume.recordStart(group);
            case 6: return (int) volume.recordBlocks;
            case 7: return (int) volume.fixedBlocks(group);
            default: return BAD;
        }
    }

    public int record(int file, boolean place) {
        if (volume.firstFaultOf(row0) != RIGHT || file < 1 || file > volume.files) {
            return BAD;
        }
        long before = file - 1L;
        long group = quotient(before, volume.groupFiles);
        long bytesBefore = (before - group * volume.groupFiles) * volume.recordBytes;
        long blocksBefore = quotient(bytesBefore, volume.size);
        return (int) (place
            ? bytesBefore - blocksBefore * volume.size
            : volume.recordStart(group) + blocksBefore);
    }

    private Row rowOf(int row) {
        if (row == 0) {
            return row0;
        }
        return row == 1 ? row1 : null;
    }

    private boolean isGroupOfRightRow(int group) {
        return volume.firstFaultOf(row0) == RIGHT && group >= 0 && group < volume.groupCount;
    }

    private static boolean isField(int at, int n) {
        return (n == 1 || n == 2 || n == 4) && at >= 0 && at <= ROW_BYTES - n;
    }

    private static boolean isFollowed(int i) {
        for (int k = 0; k + 1 < NOT_FOLLOWED.length; k += 2) {
            if (i >= NOT_FOLLOWED[k] && i <= NOT_FOLLOWED[k + 1]) {
                return false;
            }
        }
        return true;
    }

    private static int firstFor(long shift) {
        return shift == 0 ? 1 : 0;
    }

    private static boolean isEightfold(long value, long least, long most) {
        return value >= least && value <= most && (value & 7) == 0;
    }

    private static boolean isRecordLength(long length) {
        return length == 128 || length == 256 || length == 512 || length == 1024;
    }

    // A row that is not yet found right may hold a divisor of 0: no parts then.
    private static long quotient(long value, long by) {
        return by < 1 ? 0 : value / by;
    }

    private static long quotientUp(long value, long by) {
        return quotient(value + by - 1, by);
    }

    /** One row of bytes, read and written by its fields. */
    private static final class Row {
        private final byte[] bytes = new byte[ROW_BYTES];

        void clear() {
            for (int i = 0; i < ROW_BYTES; i++) {
                bytes[i] = 0;
            }
        }

        void takeAll(Row other) {
            for (int i = 0; i < ROW_BYTES; i++) {
                bytes[i] = other.bytes[i];
            }
        }

        long field(int at, int n) {
            if (!isField(at, n)) {
                return BAD;
            }
            long value = 0;
            for (int i = n - 1; i >= 0; i--) {
                value = value << 8 | (bytes[at + i] & 255);
            }
            return value;
        }

        void write(int at, int n, long value) {
            if (!isField(at, n)) {
                return;
            }
            for (int i = 0; i < n; i++) {
                bytes[at + i] = (byte) (value >> 8 * i);
            }
        }

        void writeConstants() {
            write(MOUNTS_ALLOWED_AT, 2, TWO_BYTES_FULL);
            write(MAGIC_AT, 2, MAGIC);
            write(STATE_AT, 2, STATE_CLEAN);
            write(REVISION_AT, 4, REVISION);
            write(FIRST_FREE_FILE_AT, 4, FIRST_FREE_FILE);
            write(COMPATIBLE_AT, 4, LISTED_COMPATIBLE);
            write(NEEDED_AT, 4, NEEDED_ALWAYS);
            write(FOR_WRITING_AT, 4, LISTED_FOR_WRITING);
            write(JOURNAL_FILE_AT, 4, JOURNAL_FILE);
            write(HASH_KIND_AT, 1, HASH_KIND);
        }
    }

    /** What a row speaks of. Numbers are long, as a field of 4 bytes has no sign. */
    private static final class Volume {
        private long files;
        private long blocks;
        private long first;
        private long shift;
        private long size;
        private long groupBlocks;
        private long groupFiles;
        private long recordBytes;
        private boolean fewCopies;
        private long groupCount;
        private long copyBlocks;
        private long recordBlocks;

        // What follows from a row that is not right is of no use, but it can be reckoned.
        void readNumbers(Row row) {
            files = row.field(FILES_AT, 4);
            blocks = row.field(BLOCKS_AT, 4);
            first = row.field(FIRST_AT, 4);
            shift = row.field(SHIFT_AT, 4);
            size = (long) SMALLEST_BLOCK << shift;
            groupBlocks = row.field(GROUP_BLOCKS_AT, 4);
            groupFiles = row.field(GROUP_FILES_AT, 4);
            recordBytes = row.field(RECORD_BYTES_AT, 2);
            fewCopies = (row.field(FOR_WRITING_AT, 4) & FEW_COPIES_BIT) != 0;
            groupCount = quotientUp(blocks - first, groupBlocks);
            copyBlocks = 1 + quotientUp(groupCount * DESCRIPTOR_BYTES, size);
            recordBlocks = quotientUp(groupFiles * recordBytes, size);
        }

        long groupStart(long group) {
            return first + group * groupBlocks;
        }

        long groupLength(long group) {
            return Math.min(groupBlocks, blocks - groupStart(group));
        }

        boolean hasCopy(long group) {
            if (!fewCopies) {
                return true;
            }
            for (int k = 0; k < FEW_COPIES.length; k++) {
                if (FEW_COPIES[k] == group) {
                    return true;
                }
            }
            return false;
        }

        long blocksOfCopy(long group) {
            return hasCopy(group) ? copyBlocks : 0;
        }

        long blockBitmap(long group) {
            return groupStart(group) + blocksOfCopy(group);
        }

        long fileBitmap(long group) {
            return blockBitmap(group) + 1;
        }

        long recordStart(long group) {
            return fileBitmap(group) + 1;
        }

        long fixedBlocks(long group) {
            return blocksOfCopy(group) + 2 + recordBlocks;
        }

        // The parts stand in the document's order, and each relies on those before it.
        int firstFaultOf(Row row) {
            readNumbers(row);
            int found = faultOfForm(row);
            if (found == RIGHT) {
                found = faultOfGroupSizes(row);
            }
            if (found == RIGHT && !everyGroupHasRoom()) {
                found = BLOCKS_AT;
            }
            if (found == RIGHT) {
                found = faultOfCounts(row);
            }
            if (found == RIGHT) {
                found = faultOfFeatures(row);
            }
            return found == RIGHT ? faultOfRest(row) : found;
        }

        private int faultOfForm(Row row) {
            if (row.field(MAGIC_AT, 2) != MAGIC) {
                return MAGIC_AT;
            }
            if (row.field(REVISION_AT, 4) != REVISION) {
                return REVISION_AT;
            }
            if (shift > MOST_SHIFT) {
                return SHIFT_AT;
            }
            if (row.field(SHIFT_AGAIN_AT, 4) != shift) {
                return SHIFT_AGAIN_AT;
            }
            return first == firstFor(shift) ? RIGHT : FIRST_AT;
        }

        private int faultOfGroupSizes(Row row) {
            long most = 8 * size;
            if (!isEightfold(groupBlocks, LEAST_GROUP_BLOCKS, most)) {
                return GROUP_BLOCKS_AT;
            }
            if (row.field(GROUP_BLOCKS_AGAIN_AT, 4) != groupBlocks) {
                return GROUP_BLOCKS_AGAIN_AT;
            }
            if (!isRecordLength(recordBytes)) {
                return RECORD_BYTES_AT;
            }
            boolean wholeBlocks = recordBlocks * size == groupFiles * recordBytes;
            return isEightfold(groupFiles, LEAST_GROUP_FILES, most) && wholeBlocks
                ? RIGHT : GROUP_FILES_AT;
        }

        private boolean everyGroupHasRoom() {
            if (blocks <= first || blocks > MOST_BLOCKS || groupCount > MOST_GROUPS) {
                return false;
            }
            for (int group = 0; group < groupCount; group++) {
                if (groupLength(group) <= fixedBlocks(group)) {
                    return false;
                }
            }
            return true;
        }

        private int faultOfCounts(Row row) {
            if (files != groupCount * groupFiles) {
                return FILES_AT;
            }
            if (row.field(HELD_BACK_AT, 4) > blocks) {
                return HELD_BACK_AT;
            }
            if (row.field(FREE_BLOCKS_AT, 4) > blocks) {
                return FREE_BLOCKS_AT;
            }
            if (row.field(FREE_FILES_AT, 4) > files) {
                return FREE_FILES_AT;
            }
            long state = row.field(STATE_AT, 2);
            if (state != STATE_CLEAN && state != STATE_CLEAN_WITH_ERRORS) {
                return STATE_AT;
            }
            long firstFree = row.field(FIRST_FREE_FILE_AT, 4);
            if (firstFree < FIRST_FREE_FILE || firstFree > files) {
                return FIRST_FREE_FILE_AT;
            }
            long own = row.field(OWN_GROUP_AT, 2);
            return own < groupCount && hasCopy(own) ? RIGHT : OWN_GROUP_AT;
        }

        private int faultOfFeatures(Row row) {
            long needed = row.field(NEEDED_AT, 4);
            int found = unlistedFault(0, row.field(COMPATIBLE_AT, 4), LISTED_COMPATIBLE);
            if (found == RIGHT) {
                found = unlistedFault(1, needed, LISTED_NEEDED);
            }
            if (found == RIGHT && (needed & NEEDED_ALWAYS) != NEEDED_ALWAYS) {
                found = NEEDED_AT;
            }
            return found == RIGHT
                ? unlistedFault(2, row.field(FOR_WRITING_AT, 4), LISTED_FOR_WRITING) : found;
        }

        private static int unlistedFault(int word, long features, long listed) {
            for (int bit = 0; bit < 32; bit++) {
                if ((features & ~listed & 1L << bit) != 0) {
                    return UNLISTED_FEATURE + 32 * word + bit;
                }
            }
            return RIGHT;
        }

        private int faultOfRest(Row row) {
            long compatible = row.field(COMPATIBLE_AT, 4);
            long journalFile = (compatible & JOURNAL_BIT) != 0 ? JOURNAL_FILE : 0;
            long hashKind = (compatible & HASH_BIT) != 0 ? HASH_KIND : 0;
            if (row.field(JOURNAL_FILE_AT, 4) != journalFile) {
                return JOURNAL_FILE_AT;
            }
            if (row.field(ORPHAN_FILE_AT, 4) > files) {
                return ORPHAN_FILE_AT;
            }
            if (row.field(HASH_KIND_AT, 1) != hashKind) {
                return HASH_KIND_AT;
            }
            return row.field(DESCRIPTOR_BYTES_AT, 2) == 0 ? RIGHT : DESCRIPTOR_BYTES_AT;
        }
    }
}
