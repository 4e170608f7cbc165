/** The example in README.md: each call answers what stands beside it there. */
public final class ReadmeTest {
    public static void main(String[] args) {
        FieldRows x = new FieldRows();
        Due.is("groups() of a new object", x.groups(), 4);
        Due.is("lay(100000, 8192, 2048, 128, 0)", x.lay(100000, 8192, 2048, 128, 0), 13);
        Due.is("put(0, 92, 4, 100)", x.put(0, 92, 4, 100), 0);
        Due.is("fault(0)", x.fault(0), 2006);
        Due.is("poke(0, 92, 36)", x.poke(0, 92, 36), 100);
        Due.is("get(0, 92, 4)", x.get(0, 92, 4), 36);
        Due.is("fault(0) again", x.fault(0), FieldRows.RIGHT);
        Due.is("where(5, 3)", x.where(5, 3), 40963);
        Due.is("record(26624, false)", x.record(26624, false), 98562);
        Due.is("record(26624, true)", x.record(26624, true), 896);
        Due.is("copy(9)", x.copy(9), 0);
        Due.is("differs()", x.differs(), FieldRows.RIGHT);
        Due.is("copy(10)", x.copy(10), FieldRows.BAD);
        Due.is("lay(100000, 8192, 2048, 128, 3)", x.lay(100000, 8192, 2048, 128, 3), FieldRows.BAD);
        Due.is("groups() behind a refused lay", x.groups(), 13);
        Due.end();
    }
}
