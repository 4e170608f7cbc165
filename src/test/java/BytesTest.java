/** Promises 3, 4 and 5: poke, put and get. */
public final class BytesTest {
    private static final int LEAST = Integer.MIN_VALUE;
    private static final int MOST = Integer.MAX_VALUE;
    private static final int BAD = FieldRows.BAD;

    public static void main(String[] args) {
        everyByteIsPoked();
        Due.changesNothing("a wrong poke", x -> { }, x -> wrongPokes(x));
        fieldsArePut();
        lowestByteFirst();
        Due.changesNothing("a wrong put", x -> { }, x -> wrongPuts(x));
        Due.changesNothing("a wrong get", x -> { }, x -> wrongGets(x));
        Due.end();
    }

    private static void everyByteIsPoked() {
        for (int from = 0; from < 1024; from += 32) {
            for (int row = 0; row < 2; row++) {
                bytesArePoked(row, from, from + 32);
            }
        }
    }

    private static void bytesArePoked(int row, int from, int to) {
        FieldRows x = new FieldRows();
        for (int i = from; i < to; i++) {
            String call = "poke(" + row + ", " + i + ", ..)";
            long before = x.get(row, i, 1);
            long other = x.get(1 - row, i, 1);
            Due.is(call, x.poke(row, i, i * 7 + row & 255), before);
            Due.is(call + " again", x.poke(row, i, 255), i * 7 + row & 255);
            Due.is(call + " at last", x.poke(row, i, i * 5 + row & 255), 255);
            Due.is("get behind " + call, x.get(row, i, 1), i * 5 + row & 255);
            Due.is("the other row behind " + call, x.get(1 - row, i, 1), other);
        }
        for (int i = from; i < to; i++) {
            Due.is("get(" + row + ", " + i + ", 1)", x.get(row, i, 1), i * 5 + row & 255);
        }
    }

    private static void wrongPokes(FieldRows x) {
        for (int wrong : new int[] {LEAST, -1, 2, MOST}) {
            Due.is("poke(" + wrong + ", 0, 1)", x.poke(wrong, 0, 1), BAD);
        }
        for (int wrong : new int[] {LEAST, -1, 1024, MOST}) {
            Due.is("poke(0, " + wrong + ", 1)", x.poke(0, wrong, 1), BAD);
            Due.is("poke(1, " + wrong + ", 1)", x.poke(1, wrong, 1), BAD);
        }
        for (int wrong : new int[] {LEAST, -1, 256, MOST}) {
            Due.is("poke(0, 3, " + wrong + ")", x.poke(0, 3, wrong), BAD);
            Due.is("poke(1, 3, " + wrong + ")", x.poke(1, 3, wrong), BAD);
        }
    }

    private static void fieldsArePut() {
        for (int n : new int[] {1, 2, 4}) {
            long mask = (1L << 8 * n) - 1;
            for (int at : new int[] {0, 1, 3, 90, 511, 1024 - n}) {
                for (int v : new int[] {0, 1, -1, 0x80, 0x8000, LEAST, MOST, 0x12345678, 0x89abcdef}) {
                    String call = "put(1, " + at + ", " + n + ", " + v + ")";
                    int[] want = Due.bytesBehind(x -> { });
                    for (int i = 0; i < n; i++) {
                        want[1024 + at + i] = v >> 8 * i & 255;
                    }
                    Due.sameBytes(call, Due.bytesBehind(x -> {
                        Due.is(call, x.put(1, at, n, v), 0);
                        Due.is("get behind " + call, x.get(1, at, n), v & mask);
                    }), want);
                }
            }
        }
    }

    private static void lowestByteFirst() {
        FieldRows x = new FieldRows();
        Due.is("put(0, 1020, 4, ..)", x.put(0, 1020, 4, 0xfedcba98), 0);
        Due.is("get(0, 1020, 1)", x.get(0, 1020, 1), 0x98);
        Due.is("get(0, 1021, 1)", x.get(0, 1021, 1), 0xba);
        Due.is("get(0, 1022, 1)", x.get(0, 1022, 1), 0xdc);
        Due.is("get(0, 1023, 1)", x.get(0, 1023, 1), 0xfe);
        Due.is("get(0, 1021, 2)", x.get(0, 1021, 2), 0xdcba);
        Due.is("get(0, 1022, 2)", x.get(0, 1022, 2), 0xfedc);
        Due.is("get(0, 1020, 4)", x.get(0, 1020, 4), 0xfedcba98L);
        Due.is("get(1, 1020, 4)", x.get(1, 1020, 4), 0);
    }

    private static void wrongPuts(FieldRows x) {
        for (int wrong : new int[] {LEAST, -1, 2, MOST}) {
            Due.is("put(" + wrong + ", 0, 1, 9)", x.put(wrong, 0, 1, 9), BAD);
        }
        for (int wrong : new int[] {LEAST, -4, -1, 0, 3, 5, 8, MOST}) {
            Due.is("put(0, 8, " + wrong + ", 9)", x.put(0, 8, wrong, 9), BAD);
        }
        for (int n : new int[] {1, 2, 4}) {
            for (int wrong : new int[] {LEAST, -n, -1, 1025 - n, 1024, MOST - n + 1, MOST}) {
                Due.is("put(1, " + wrong + ", " + n + ", 9)", x.put(1, wrong, n, 9), BAD);
            }
        }
    }

    private static void wrongGets(FieldRows x) {
        for (int wrong : new int[] {LEAST, -1, 2, MOST}) {
            Due.is("get(" + wrong + ", 0, 1)", x.get(wrong, 0, 1), BAD);
        }
        for (int wrong : new int[] {LEAST, -4, -1, 0, 3, 5, 8, MOST}) {
            Due.is("get(0, 8, " + wrong + ")", x.get(0, 8, wrong), BAD);
        }
        for (int n : new int[] {1, 2, 4}) {
            for (int wrong : new int[] {LEAST, -n, -1, 1025 - n, 1024, MOST - n + 1, MOST}) {
                Due.is("get(1, " + wrong + ", " + n + ")", x.get(1, wrong, n), BAD);
            }
        }
    }
}
