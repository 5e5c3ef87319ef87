import java.util.NoSuchElementException;

/** Promises 12 to 19: adding rows and reading their cells. */
public final class RowsTest {
    public static void main(String[] args) {
        addRows();
        wholeSteps();
        realSteps();
        counts();
        isDeleted();
        isNull();
        getters();
        Check.end();
    }

    private static void addRows() {
        ColumnTable none = new ColumnTable();
        Check.dueThrow("no column", IllegalStateException.class, () -> none.addRows(1));
        Check.dueThrow("the count comes first", IllegalArgumentException.class, () -> none.addRows(0));
        ColumnTable t = new ColumnTable();
        Check.column(t, "a", 3);
        t.setLong(0, 7);
        Check.dueThrow("101 rows", IllegalArgumentException.class, () -> t.addRows(101));
        Check.dueThrow("-1 rows", IllegalArgumentException.class, () -> t.addRows(-1));
        Check.due("first rows", t.addRows(100), 0);
        Check.due("next rows", t.addRows(100), 100);
        Check.due("more rows", t.addRows(99), 200);
        Check.dueThrow("301 rows", IllegalStateException.class, () -> t.addRows(2));
        Check.due("none was added", t.addedCount(), 299);
        Check.due("row 299", t.addRows(1), 299);
        Check.dueThrow("row 300", IllegalStateException.class, () -> t.addRows(1));
        t.selectAll();
        t.delete();
        Check.dueThrow("deleted rows count", IllegalStateException.class, () -> t.addRows(1));
    }

    private static void wholeSteps() {
        ColumnTable t = new ColumnTable();
        Check.column(t, "s", 1);
        Check.column(t, "c", 2);
        Check.column(t, "l", 3);
        t.setLong(0, 32765);
        t.setStep(0, 1);
        t.setLong(1, 3);
        t.setStep(1, -1);
        t.setLong(2, Long.MAX_VALUE - 1000000);
        t.setStep(2, 1000000);
        Check.dueThrow("char below 0, long too large", ArithmeticException.class, () -> t.addRows(5));
        Check.dueThrow("short too large", ArithmeticException.class, () -> t.addRows(4));
        Check.dueThrow("long too large", ArithmeticException.class, () -> t.addRows(3));
        Check.due("nothing was added", t.addedCount(), 0);
        Check.due("two rows", t.addRows(2), 0);
        Check.due("short", t.getLong(1, 0), 32766L);
        Check.due("char", t.getLong(1, 1), 2L);
        Check.due("long", t.getLong(1, 2), Long.MAX_VALUE);
        t.setLong(2, Long.MIN_VALUE + 5);
        t.setStep(2, -6);
        Check.dueThrow("long too small", ArithmeticException.class, () -> t.addRows(2));
        t.setNull(2);
        Check.due("a null cell has no sum", t.addRows(2), 2);
        Check.due("the pending row does not change", t.getLong(2, 0), 32765L);
        Check.due("null", t.isNull(3, 2), true);
    }

    private static void realSteps() {
        ColumnTable t = new ColumnTable();
        Check.column(t, "f", 4);
        Check.column(t, "d", 5);
        t.setDouble(0, 0.1);
        t.setStep(0, 0.1);
        t.setDouble(1, 0.1);
        t.setStep(1, 0.1);
        t.addRows(4);
        Check.due("float", t.getDouble(3, 0), (double) (float) ((double) 0.1f + 3 * 0.1));
        Check.due("double", t.getDouble(3, 1), 0.1 + 3 * 0.1);
        t.setDouble(1, -0.0);
        t.setStep(1, -0.0);
        t.setDouble(0, -0.0);
        t.setStep(0, 1.0);
        t.addRows(2);
        Check.due("without a step -0 stays", t.getDouble(5, 1), -0.0);
        Check.due("with a step row 0 is a sum", t.getDouble(4, 0), 0.0);
        t.setDouble(1, 1e9);
        t.setStep(1, 0.0);
        t.setDouble(0, 999999999);
        t.setStep(0, 1);
        // The float nearest to 10^9 + 1 is 10^9, but the one nearest to 10^9 + 33 is greater.
        t.addRows(3);
        Check.due("rounded to 10^9", t.getDouble(8, 0), 1e9);
        t.setStep(0, 20);
        Check.dueThrow("float beyond 10^9", ArithmeticException.class, () -> t.addRows(3));
        t.setStep(0, 0);
        t.setStep(1, 1e-3);
        Check.dueThrow("double beyond 10^9", ArithmeticException.class, () -> t.addRows(2));
        t.setDouble(1, -1e9);
        t.setStep(1, -1e-3);
        Check.dueThrow("double below -10^9", ArithmeticException.class, () -> t.addRows(2));
        Check.due("the first row alone is in range", t.addRows(1), 9);
    }

    private static void counts() {
        ColumnTable t = new ColumnTable();
        Check.column(t, "a", 0);
        t.addRows(5);
        Check.due("added", t.addedCount(), 5);
        Check.due("rows", t.rowCount(), 5);
        t.selectAll();
        t.delete();
        Check.due("added, with deleted ones", t.addedCount(), 5);
        Check.due("rows, without them", t.rowCount(), 0);
        t.addRows(2);
        t.compact();
        Check.due("added after compacting", t.addedCount(), 7);
        Check.due("rows after compacting", t.rowCount(), 2);
    }

    /** Rows 0, 2 are deleted of 4; the first has 1, the others null. */
    private static ColumnTable withDeleted(int type) {
        ColumnTable t = new ColumnTable();
        Check.column(t, "a", type);
        Check.column(t, "b", 1);
        t.setLong(1, 0);
        t.setStep(1, 1);
        t.addRows(3);
        t.setLong(0, 1);
        t.setLong(1, 3);
        t.addRows(1);
        Check.select(t, "b % 2 = 0");
        t.delete();
        return t;
    }

    private static void isDeleted() {
        ColumnTable t = withDeleted(3);
        Check.due("deleted", t.isDeleted(0) && t.isDeleted(2), true);
        Check.due("not deleted", t.isDeleted(1) || t.isDeleted(3), false);
        Check.dueThrow("-1", IndexOutOfBoundsException.class, () -> t.isDeleted(-1));
        Check.dueThrow("4", IndexOutOfBoundsException.class, () -> t.isDeleted(4));
        t.compact();
        Check.due("deleted after compacting", t.isDeleted(2), true);
    }

    private static void isNull() {
        ColumnTable t = withDeleted(3);
        Check.due("null", t.isNull(1, 0), true);
        Check.due("not null", t.isNull(3, 0), false);
        Check.dueThrow("deleted", NoSuchElementException.class, () -> t.isNull(0, 0));
        Check.dueThrow("no row", IndexOutOfBoundsException.class, () -> t.isNull(4, 0));
        Check.dueThrow("row -1", IndexOutOfBoundsException.class, () -> t.isNull(-1, 0));
        Check.dueThrow("no column, though deleted", IndexOutOfBoundsException.class, () -> t.isNull(0, 2));
        Check.dueThrow("column -1", IndexOutOfBoundsException.class, () -> t.isNull(1, -1));
    }

    private static void getters() {
        ColumnTable t = withDeleted(0);
        Check.due("true as a long", t.getLong(3, 0), 1L);
        Check.due("true as a double", t.getDouble(3, 0), 1.0);
        Check.due("true as a float", t.getFloat(3, 0), 1f);
        Check.dueThrow("long, null", NoSuchElementException.class, () -> t.getLong(1, 0));
        Check.dueThrow("double, null", NoSuchElementException.class, () -> t.getDouble(1, 0));
        Check.dueThrow("float, null", NoSuchElementException.class, () -> t.getFloat(1, 0));
        Check.dueThrow("long, deleted", NoSuchElementException.class, () -> t.getLong(0, 1));
        Check.dueThrow("double, deleted", NoSuchElementException.class, () -> t.getDouble(0, 1));
        Check.dueThrow("float, deleted", NoSuchElementException.class, () -> t.getFloat(0, 1));
        int[][] outside = {{-1, 0}, {4, 0}, {1, -1}, {1, 2}, {0, 2}};
        for (int[] p : outside) {
            Check.dueThrow("long", IndexOutOfBoundsException.class, () -> t.getLong(p[0], p[1]));
            Check.dueThrow("double", IndexOutOfBoundsException.class, () -> t.getDouble(p[0], p[1]));
            Check.dueThrow("float", IndexOutOfBoundsException.class, () -> t.getFloat(p[0], p[1]));
        }
        ColumnTable u = new ColumnTable();
        Check.column(u, "l", 3);
        Check.column(u, "d", 5);
        u.setLong(0, 9007199254740993L);
        u.setDouble(1, -2.9);
        u.addRows(1);
        Check.due("long as the nearest double", u.getDouble(0, 0), 9007199254740992.0);
        Check.due("a double toward 0", u.getLong(0, 1), -2L);
        Check.due("a double as the nearest float", u.getFloat(0, 1), -2.9f);
        // By way of a double this long would become the float 2^60 instead.
        u.setLong(0, (1L << 60) + (1L << 36) + 1);
        u.addRows(1);
        Check.due("a long as the nearest float", u.getFloat(1, 0), (float) ((1L << 60) + (1L << 37)));
    }
}
