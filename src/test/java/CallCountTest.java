/** "An object is used for at most 512 calls after it has been made": each of the 512 is answered as the first is. */
public final class CallCountTest {
    private static final int CALLS = 512;
    private static final int BAD = FieldRows.BAD;
    private static final int RIGHT = FieldRows.RIGHT;

    public static void main(String[] args) {
        always("lay", 64, x -> x.lay(1 << 21, 1 << 15, 1 << 15, 1024, 2));
        always("a refused lay", BAD, x -> x.lay((1 << 21) + 1, 1 << 15, 1 << 15, 1024, 2));
        always("put", 0, x -> x.put(1, 1020, 4, -1));
        always("a refused put", BAD, x -> x.put(1, 1021, 4, -1));
        always("get", 61267, x -> x.get(1, 56, 2));
        always("a refused get", BAD, x -> x.get(1, 1023, 2));
        always("a refused poke", BAD, x -> x.poke(0, 0, 256));
        always("fault", RIGHT, x -> x.fault(1));
        always("fault of no row", BAD, x -> x.fault(2));
        always("copy", 0, x -> x.copy(3));
        always("a refused copy", BAD, x -> x.copy(2));
        always("differs", RIGHT, x -> x.differs());
        always("groups", 4, x -> x.groups());
        always("where", 772, x -> x.where(3, 5));
        always("a refused where", BAD, x -> x.where(4, 5));
        always("record", 779, x -> x.record(512, false));
        always("a refused record", BAD, x -> x.record(513, false));
        pokes();
        fieldsOfAWholeRow();
        laysInTurn();
        theLastCall();
        Due.end();
    }

    private static void always(String what, long want, Due.Call call) {
        FieldRows x = new FieldRows();
        for (int k = 1; k <= CALLS; k++) {
            Due.is(what + " as call " + k, call.on(x), want);
        }
    }

    private static void pokes() {
        FieldRows x = new FieldRows();
        for (int k = 1; k <= CALLS; k++) {
            Due.is("poke as call " + k, x.poke(0, 1023, k & 255), k - 1 & 255);
        }
    }

    private static void fieldsOfAWholeRow() {
        FieldRows x = new FieldRows();
        for (int at = 0; at < 1024; at += 4) {
            Due.is("put at " + at, x.put(1, at, 4, ~(at * 0x01010101)), 0);
        }
        for (int at = 0; at < 1024; at += 4) {
            Due.is("get at " + at, x.get(1, at, 4), ~(at * 0x01010101) & 0xffffffffL);
        }
    }

    private static void laysInTurn() {
        FieldRows x = new FieldRows();
        for (int k = 0; k < CALLS / 4; k++) {
            int groups = k % 64 + 1;
            Due.is("lay of " + groups + " groups", x.lay(1 + 64 * groups, 64, 16, 128, 0), groups);
            Due.is("lay of no blocks", x.lay(0, 64, 16, 128, 0), BAD);
            Due.is("groups()", x.groups(), groups);
            Due.is("where of the last group", x.where(groups - 1, 0), 1 + 64 * (groups - 1));
        }
    }

    /** Each kind of call is the 512th once, behind 511 that changed the rows and changed them back. */
    private static void theLastCall() {
        Due.is("lay at last", nearlyUsed().lay(1 << 21, 1 << 15, 1 << 15, 1024, 2), 64);
        Due.is("poke at last", nearlyUsed().poke(1, 56, 0), 83);
        Due.is("put at last", nearlyUsed().put(1, 56, 2, 0), 0);
        Due.is("get at last", nearlyUsed().get(1, 0, 4), 512);
        Due.is("fault(0) at last", nearlyUsed().fault(0), RIGHT);
        Due.is("fault(1) at last", nearlyUsed().fault(1), RIGHT);
        Due.is("copy at last", nearlyUsed().copy(1), 0);
        Due.is("differs at last", nearlyUsed().differs(), RIGHT);
        Due.is("groups at last", nearlyUsed().groups(), 4);
        Due.is("where at last", nearlyUsed().where(2, 7), 10);
        Due.is("record at last", nearlyUsed().record(512, true), 3840);
    }

    private static FieldRows nearlyUsed() {
        FieldRows x = new FieldRows();
        for (int k = 0; k < 73; k++) {
            Due.is("put of a wrong number", x.put(0, 56, 2, k), 0);
            Due.is("fault(0)", x.fault(0), 56);
            Due.is("copy of a wrong row", x.copy(3), BAD);
            Due.is("lay of other blocks", x.lay(8, 64, 16, 128, 0), 1);
            Due.is("differs()", x.differs(), RIGHT);
            Due.is("lay as new", x.lay(1024, 256, 128, 256, 2), 4);
            Due.is("copy(3)", x.copy(3), 0);
        }
        return x;
    }
}
