/** Promises 7 and 8: copy and differs. */
public final class CopyTest {
    private static final int BAD = FieldRows.BAD;
    private static final int RIGHT = FieldRows.RIGHT;

    public static void main(String[] args) {
        groupsWithCopies();
        allHaveCopies();
        wrongCopies();
        everyByteIsCopied();
        everyByteDiffers();
        firstOfSeveral();
        Due.end();
    }

    private static boolean isPowerOfThreeFiveOrSeven(int group) {
        for (int base = 3; base <= 7; base += 2) {
            for (int power = 1; power <= group; power *= base) {
                if (power == group) {
                    return true;
                }
            }
        }
        return false;
    }

    private static void groupsWithCopies() {
        FieldRows x = new FieldRows();
        Due.is("lay of 64 groups", x.lay(4097, 64, 16, 128, 0), 64);
        for (int group = 0; group < 64; group++) {
            boolean due = group == 0 || isPowerOfThreeFiveOrSeven(group);
            int number = group;
            Due.is("where(" + group + ", 2)", x.where(group, 2), due ? 1 : 0);
            Due.is("copy(" + group + ")", x.copy(group), due ? 0 : BAD);
            if (due) {
                Due.is("get(1, 90, 2)", x.get(1, 90, 2), group);
                Due.is("get(0, 90, 2)", x.get(0, 90, 2), 0);
                Due.is("differs()", x.differs(), RIGHT);
                Due.is("fault(1)", x.fault(1), RIGHT);
            } else {
                Due.changesNothing("copy(" + group + ")", y -> y.lay(4097, 64, 16, 128, 0), y -> y.copy(number));
            }
        }
        Due.is("copy(64)", x.copy(64), BAD);
    }

    private static void allHaveCopies() {
        FieldRows x = new FieldRows();
        x.put(0, 100, 4, 2);
        Due.is("copy(2)", x.copy(2), 0);
        Due.is("get(1, 90, 2)", x.get(1, 90, 2), 2);
        Due.is("fault(1)", x.fault(1), RIGHT);
        x.put(1, 100, 4, 3);
        Due.is("fault(1), fewer copies", x.fault(1), 90);
    }

    private static void wrongCopies() {
        Due.changesNothing("a wrong copy", x -> x.poke(0, 500, 9), x -> {
            for (int wrong : new int[] {Integer.MIN_VALUE, -1, 2, 4, 5, 7, 65536, 65537, Integer.MAX_VALUE}) {
                Due.is("copy(" + wrong + ")", x.copy(wrong), BAD);
            }
        });
        Due.changesNothing("a copy of a wrong row", x -> x.put(0, 254, 2, 1),
            x -> Due.is("copy(0), row 0 not right", x.copy(0), BAD));
        FieldRows x = new FieldRows();
        x.put(1, 254, 2, 1);
        Due.is("copy(0), row 1 not right", x.copy(0), 0);
        Due.is("fault(1)", x.fault(1), RIGHT);
    }

    private static void everyByteIsCopied() {
        Due.Run allOverRowZero = x -> {
            for (int at = 256; at < 1024; at += 4) {
                x.put(0, at, 4, at * 0x01030507);
            }
            x.put(0, 12, 4, 77);
            x.put(0, 44, 4, 0x01020304);
            x.put(0, 58, 2, 3);
            x.put(0, 90, 2, 1);
            x.put(0, 232, 4, 12);
        };
        bytesAreCopied("copy(3) of a full row", allOverRowZero);
        bytesAreCopied("copy(3) over a full row", x -> Due.fill(x, 1, 99));
    }

    private static void bytesAreCopied(String what, Due.Run before) {
        int[] want = Due.bytesBehind(before);
        System.arraycopy(want, 0, want, 1024, 1024);
        want[1024 + 90] = 3;
        want[1024 + 91] = 0;
        Due.sameBytes(what, Due.bytesBehind(x -> {
            before.on(x);
            Due.is(what, x.copy(3), 0);
        }), want);
    }

    private static boolean isFollowed(int i) {
        return !(i >= 12 && i <= 19 || i >= 44 && i <= 53 || i == 58 || i == 59 || i == 90 || i == 91
            || i >= 232 && i <= 235);
    }

    private static void everyByteDiffers() {
        for (int row = 0; row < 2; row++) {
            for (int i = 0; i < 1024; i++) {
                FieldRows x = new FieldRows();
                int was = x.poke(row, i, 200);
                Due.is("differs() at " + i, x.differs(), isFollowed(i) ? i : RIGHT);
                x.poke(row, i, was);
                Due.is("differs() no more at " + i, x.differs(), RIGHT);
            }
        }
        Due.changesNothing("differs()", x -> x.put(1, 88, 4, -1), x -> x.differs());
    }

    private static void firstOfSeveral() {
        FieldRows x = new FieldRows();
        int[] places = {1023, 236, 231, 92, 89, 60, 57, 54, 43, 20, 11, 0};
        for (int at : places) {
            x.poke(1, at, 201);
            x.poke(1, 12, 1);
            Due.is("differs(), first at " + at, x.differs(), at);
        }
    }
}
