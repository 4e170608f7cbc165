/** Counts and prints the answers that are not as due; the tests of the project share it. */
final class Due {
    // An object is promised for 512 calls: whoever reads many bytes takes a new one for each part.
    private static final int PART = 512;
    private static int wrong = 0;

    private Due() {
    }

    /** Some calls on a new object. */
    interface Run {
        void on(FieldRows x);
    }

    /** One call, and its answer. */
    interface Call {
        long on(FieldRows x);
    }

    static void is(String call, long got, long want) {
        if (got != want) {
            wrong++;
            System.out.println(call + " answered " + got + ", due is " + want);
        }
    }

    static void holds(String what, boolean held) {
        is(what, held ? 1 : 0, 1);
    }

    /** Every byte of both rows behind a run of at most 384 calls; row 1 from 1024 on. */
    static int[] bytesBehind(Run run) {
        int[] all = new int[2048];
        for (int from = 0; from < 2048; from += PART) {
            FieldRows x = new FieldRows();
            run.on(x);
            for (int i = from; i < from + PART; i += 4) {
                long field = x.get(i / 1024, i % 1024, 4);
                for (int k = 0; k < 4; k++) {
                    all[i + k] = (int) (field >> 8 * k & 255);
                }
            }
        }
        return all;
    }

    static void sameBytes(String what, int[] got, int[] want) {
        for (int i = 0; i < 2048; i++) {
            is(what + ": byte " + i % 1024 + " of row " + i / 1024, got[i], want[i]);
        }
    }

    static void changesNothing(String what, Run before, Run calls) {
        sameBytes(what + " changes nothing", bytesBehind(x -> {
            before.on(x);
            calls.on(x);
        }), bytesBehind(before));
    }

    /** The call answers BAD behind a run of at most 380 calls, and leaves every byte and every answer as it was. */
    static void refuses(String what, Run before, Call call) {
        FieldRows x = new FieldRows();
        before.on(x);
        is(what, call.on(x), FieldRows.BAD);
        changesNothing(what, before, y -> call.on(y));
        FieldRows untouched = new FieldRows();
        before.on(untouched);
        long[] got = answers(x);
        long[] want = answers(untouched);
        for (int k = 0; k < want.length; k++) {
            is(what + ": answer " + k + " behind it", got[k], want[k]);
        }
    }

    private static long[] answers(FieldRows x) {
        return new long[] {
            x.fault(0), x.fault(1), x.differs(), x.groups(), x.where(0, 3), x.where(1, 7), x.where(2, 1), x.where(3, 5),
            x.record(1, false), x.record(17, true), x.record(129, false), x.record(512, true),
        };
    }

    static void fill(FieldRows x, int row, int v) {
        for (int at = 0; at < 1024; at += 4) {
            x.put(row, at, 4, v * 0x01010101);
        }
    }

    static void end() {
        System.out.println(wrong == 0 ? "all answers are as due" : wrong + " answers are not as due");
        if (wrong != 0) {
            System.exit(1);
        }
    }
}
