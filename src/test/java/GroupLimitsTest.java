/**
 * "Terms": how many groups there are, where each begins and ends, which have copies, and which of their
 * blocks are fixed; one method for each sentence, at its edges.
 */
public final class GroupLimitsTest {
    private static final int BAD = FieldRows.BAD;
    private static final int RIGHT = FieldRows.RIGHT;
    private static final int[] WITH_COPIES = {0, 1, 3, 5, 7, 9, 25, 27, 49};

    public static void main(String[] args) {
        groupsAreRoundedUp();
        groupsAreAtMostSixtyFour();
        aGroupBeginsBehindThoseBeforeIt();
        theLastGroupHasWhatIsLeft();
        powersHaveCopies();
        otherwiseAllHaveCopies();
        descriptorsFillBlocks();
        recordsFillBlocks();
        fixedBlocksStandInOrder();
        theLastGroupHasRoom();
        everyGroupHasRoom();
        aGroupWithoutCopyHasMoreRoom();
        Due.end();
    }

    private static boolean isAmong(int[] numbers, int number) {
        for (int each : numbers) {
            if (each == number) {
                return true;
            }
        }
        return false;
    }

    private static int first(int shift) {
        return shift == 0 ? 1 : 0;
    }

    private static FieldRows laid(int want, int blocks, int perGroup, int files, int record, int shift) {
        FieldRows x = new FieldRows();
        Due.is("lay(" + blocks + ", " + perGroup + ", " + files + ", " + record + ", " + shift + ")",
            x.lay(blocks, perGroup, files, record, shift), want);
        Due.is("groups() of " + blocks + " blocks", x.groups(), want == BAD ? 4 : want);
        return x;
    }

    /** "GROUPS there are as many as blocks less first, by blocks in a group, rounded up." */
    private static void groupsAreRoundedUp() {
        for (int shift = 0; shift <= 2; shift++) {
            for (int k = 1; k <= 64; k++) {
                int whole = first(shift) + k * 64;
                laid(k, whole - 1, 64, 32, 128, shift);
                laid(k, whole, 64, 32, 128, shift);
                if (k < 64) {
                    // A group of 12 blocks has room enough with and without a copy.
                    laid(k + 1, whole + 12, 64, 32, 128, shift);
                }
            }
        }
    }

    /** "the groups at most 64": the 65th has room enough, and is one too many. */
    private static void groupsAreAtMostSixtyFour() {
        for (int shift = 0; shift <= 2; shift++) {
            for (int perGroup : new int[] {64, 72, 8 * (1024 << shift)}) {
                int whole = first(shift) + 64 * perGroup;
                laid(64, whole, perGroup, 32, 128, shift);
                for (int more : new int[] {1, 12, perGroup - 1, perGroup, perGroup + 1}) {
                    laid(BAD, whole + more, perGroup, 32, 128, shift);
                }
            }
        }
    }

    /** "Group g has blocks from first and g times those in a group on" */
    private static void aGroupBeginsBehindThoseBeforeIt() {
        for (int shift = 0; shift <= 2; shift++) {
            for (int perGroup : new int[] {64, 8 * (1024 << shift)}) {
                FieldRows x = laid(64, first(shift) + 64 * perGroup, perGroup, 32, 128, shift);
                for (int group = 0; group < 64; group++) {
                    Due.is("where(" + group + ", 0)", x.where(group, 0), first(shift) + group * perGroup);
                    Due.is("where(" + group + ", 1)", x.where(group, 1), perGroup);
                }
            }
        }
    }

    /** "the last one what is left" */
    private static void theLastGroupHasWhatIsLeft() {
        for (int shift = 0; shift <= 2; shift++) {
            for (int left = 12; left <= 64; left++) {
                FieldRows x = laid(3, first(shift) + 128 + left, 64, 32, 128, shift);
                Due.is("where(0, 1)", x.where(0, 1), 64);
                Due.is("where(1, 1)", x.where(1, 1), 64);
                Due.is("where(2, 1)", x.where(2, 1), left);
                FieldRows one = laid(1, first(shift) + left, 64, 32, 128, shift);
                Due.is("where(0, 1) of the only group", one.where(0, 1), left);
            }
        }
    }

    /** "Groups 0 and 1, and those whose numbers are powers of 3, 5 or 7, have COPIES .., if bit 0 .. is set" */
    private static void powersHaveCopies() {
        for (int forWriting = 1; forWriting <= 3; forWriting += 2) {
            FieldRows x = laid(64, 4097, 64, 16, 128, 0);
            x.put(0, 100, 4, forWriting);
            for (int group = 0; group < 64; group++) {
                boolean due = isAmong(WITH_COPIES, group);
                Due.is("where(" + group + ", 2)", x.where(group, 2), due ? 1 : 0);
                Due.is("where(" + group + ", 7)", x.where(group, 7), due ? 7 : 4);
                Due.is("copy(" + group + ")", x.copy(group), due ? 0 : BAD);
            }
        }
    }

    /** "otherwise all do" */
    private static void otherwiseAllHaveCopies() {
        for (int forWriting = 0; forWriting <= 2; forWriting += 2) {
            FieldRows x = laid(64, 4097, 64, 16, 128, 0);
            x.put(0, 100, 4, forWriting);
            for (int group = 0; group < 64; group++) {
                Due.is("where(" + group + ", 2)", x.where(group, 2), 1);
                Due.is("where(" + group + ", 7)", x.where(group, 7), 7);
                Due.is("copy(" + group + ")", x.copy(group), 0);
                Due.is("get(1, 90, 2)", x.get(1, 90, 2), group);
            }
        }
    }

    /** "so many for the descriptors as hold 32 bytes for each group": 1,024 bytes hold 32 of them. */
    private static void descriptorsFillBlocks() {
        for (int shift = 0; shift <= 2; shift++) {
            for (int groups = 1; groups <= 64; groups++) {
                FieldRows x = laid(groups, first(shift) + 64 * groups, 64, 32, 128, shift);
                int descriptors = shift == 0 && groups > 32 ? 2 : 1;
                Due.is("where(0, 3) of " + groups + " groups", x.where(0, 3), first(shift) + 1 + descriptors);
            }
        }
    }

    /** "as many blocks as hold its records" */
    private static void recordsFillBlocks() {
        for (int shift = 0; shift <= 2; shift++) {
            int size = 1024 << shift;
            int perGroup = 8 * size;
            for (int record = 128; record <= 1024; record *= 2) {
                for (int files : new int[] {32, 64, 4096}) {
                    FieldRows x = laid(1, perGroup, perGroup, files, record, shift);
                    Due.is("where(0, 6), " + files + " of " + record, x.where(0, 6), files * record / size);
                }
            }
        }
        Due.is("where(0, 6), the fewest", laid(1, 64, 64, 32, 128, 2).where(0, 6), 1);
        Due.is("where(0, 6), the most", laid(1, 32768, 32768, 32768, 1024, 2).where(0, 6), 8192);
    }

    /** "A group with a copy begins with 1 block, ..; then, in every group, come ..: all these are FIXED." */
    private static void fixedBlocksStandInOrder() {
        FieldRows x = laid(33, 1 + 33 * 64, 64, 16, 128, 0);
        for (int group = 0; group < 33; group++) {
            int start = 1 + 64 * group;
            int copy = isAmong(WITH_COPIES, group) ? 3 : 0;
            Due.is("where(" + group + ", 3)", x.where(group, 3), start + copy);
            Due.is("where(" + group + ", 4)", x.where(group, 4), start + copy + 1);
            Due.is("where(" + group + ", 5)", x.where(group, 5), start + copy + 2);
            Due.is("where(" + group + ", 6)", x.where(group, 6), 2);
            Due.is("where(" + group + ", 7)", x.where(group, 7), copy + 4);
        }
    }

    /** "each group has more blocks than its fixed ones": the last group, with a copy and without. */
    private static void theLastGroupHasRoom() {
        for (int shift = 0; shift <= 2; shift++) {
            int records = 32 * 128 / (1024 << shift);
            for (int last = 0; last < 64; last++) {
                int descriptors = shift == 0 && last + 1 > 32 ? 2 : 1;
                int fixed = (isAmong(WITH_COPIES, last) ? 1 + descriptors : 0) + 2 + records;
                int before = first(shift) + 64 * last;
                for (int left = 1; left <= fixed; left++) {
                    laid(BAD, before + left, 64, 32, 128, shift);
                }
                FieldRows x = laid(last + 1, before + fixed + 1, 64, 32, 128, shift);
                Due.is("where(" + last + ", 7)", x.where(last, 7), fixed);
                Due.is("where(" + last + ", 1)", x.where(last, 1), fixed + 1);
            }
        }
    }

    /** "each group has more blocks than its fixed ones": a group before the last. */
    private static void everyGroupHasRoom() {
        // 8 files fill a block, and 4 blocks stand before them in group 0.
        laid(1, 65, 64, 8 * 59, 128, 0);
        laid(BAD, 65, 64, 8 * 60, 128, 0);
        // Group 2 has no copy and would have room for 60 and 61 blocks of records; groups 0 and 1 have not.
        laid(3, 1 + 3 * 64, 64, 8 * 59, 128, 0);
        laid(BAD, 1 + 3 * 64, 64, 8 * 60, 128, 0);
        laid(BAD, 1 + 3 * 64, 64, 8 * 61, 128, 0);
        // The second block of descriptors takes the room that there was with 32 groups.
        laid(32, 1 + 32 * 64, 64, 8 * 59, 128, 0);
        laid(BAD, 1 + 33 * 64, 64, 8 * 59, 128, 0);
        laid(33, 1 + 33 * 64, 64, 8 * 58, 128, 0);
    }

    /** "if bit 0 of the features for writing is set; otherwise all do": a copy takes room in its group. */
    private static void aGroupWithoutCopyHasMoreRoom() {
        for (int forWriting = 0; forWriting <= 3; forWriting++) {
            boolean few = forWriting % 2 == 1;
            faultOfTwoAndSome(forWriting, 10, 4);
            faultOfTwoAndSome(forWriting, 11, few ? RIGHT : 4);
            faultOfTwoAndSome(forWriting, 12, few ? RIGHT : 4);
            faultOfTwoAndSome(forWriting, 13, RIGHT);
        }
    }

    // Group 2 of the new object's volume: 10 fixed blocks, and 2 more with a copy.
    private static void faultOfTwoAndSome(int forWriting, int left, int want) {
        FieldRows x = laid(3, 512 + 20, 256, 128, 256, 2);
        x.put(0, 4, 4, 512 + left);
        x.put(0, 100, 4, forWriting);
        Due.is("fault(0) with " + left + " blocks in group 2, for writing " + forWriting, x.fault(0), want);
        Due.is("fault(1)", x.fault(1), RIGHT);
    }
}
