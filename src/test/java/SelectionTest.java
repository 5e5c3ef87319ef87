import java.util.NoSuchElementException;

/** Promises 35 and 39 to 45: the selection, its order, and what is computed from it. */
public final class SelectionTest {
    public static void main(String[] args) {
        selectAll();
        selected();
        whatChangesIt();
        sortSelection();
        extreme();
        valueCount();
        sumLong();
        sumDouble();
        noSuchColumn();
        Check.end();
    }

    /** Columns: a DOUBLE, b SHORT, c BOOLEAN; rows: 2 7 t; null 7 f; -0 null null; 0 5 t; 2 5 f. */
    private static ColumnTable table() {
        ColumnTable t = new ColumnTable();
        Check.column(t, "a", 5);
        Check.column(t, "b", 1);
        Check.column(t, "c", 0);
        t.setSegmentSize(2);
        t.setDouble(0, 2);
        t.setLong(1, 7);
        t.setLong(2, 1);
        t.addRows(1);
        t.setNull(0);
        t.setLong(2, 0);
        t.addRows(1);
        t.setDouble(0, -0.0);
        t.setNull(1);
        t.setNull(2);
        t.addRows(1);
        t.setDouble(0, 0.0);
        t.setLong(1, 5);
        t.setLong(2, 1);
        t.addRows(1);
        t.setDouble(0, 2);
        t.setLong(2, 0);
        t.addRows(1);
        return t;
    }

    private static String rows(ColumnTable t) {
        StringBuilder result = new StringBuilder();
        for (int i = 0; i < t.selectedCount(); i++) {
            result.append(t.selected(i)).append(' ');
        }
        return result.toString();
    }

    private static void selectAll() {
        ColumnTable t = table();
        Check.due("all", t.selectAll(), 5);
        Check.due("rows", rows(t), "0 1 2 3 4 ");
        t.recluster(1);
        Check.due("all, reclustered", t.selectAll(), 5);
        Check.due("storage order", rows(t), "2 3 4 0 1 ");
        Check.select(t, "b = 5");
        t.delete();
        Check.due("all that live", t.selectAll(), 3);
        Check.due("those rows", rows(t), "2 0 1 ");
        Check.due("select in storage order", Check.picked(t, "b = 7"), "0 1 / 3");
    }

    private static void selected() {
        ColumnTable t = table();
        Check.due("empty at first", t.selectedCount(), 0);
        Check.dueThrow("index 0 of none", IndexOutOfBoundsException.class, () -> t.selected(0));
        Check.due("select", Check.select(t, "b = 5"), 2);
        Check.due("count", t.selectedCount(), 2);
        Check.due("first", t.selected(0), 3);
        Check.due("last", t.selected(1), 4);
        Check.dueThrow("index 2", IndexOutOfBoundsException.class, () -> t.selected(2));
        Check.dueThrow("index -1", IndexOutOfBoundsException.class, () -> t.selected(-1));
    }

    private static void whatChangesIt() {
        ColumnTable t = table();
        Check.select(t, "b = 5");
        t.setLong(1, 9);
        t.update(1);
        Check.due("updated rows stay", rows(t), "3 4 ");
        t.compact();
        t.recluster(1);
        t.addRows(1);
        t.group(1, 1);
        Check.due("and nothing else changes it", rows(t), "3 4 ");
        t.delete();
        Check.due("deleted rows do not", t.selectedCount(), 0);
    }

    private static void sortSelection() {
        ColumnTable t = table();
        t.selectAll();
        Check.due("count", t.sortSelection(0, false), 5);
        Check.due("null, -0, 0, 2", rows(t), "1 2 3 0 4 ");
        t.sortSelection(1, false);
        Check.due("equal cells keep their order", rows(t), "2 3 4 1 0 ");
        t.sortSelection(2, true);
        Check.due("true, false, null", rows(t), "3 0 4 1 2 ");
        t.sortSelection(0, true);
        Check.due("descending, null last", rows(t), "0 4 3 2 1 ");
        t.sortSelection(2, false);
        Check.due("null, false, true", rows(t), "2 4 1 0 3 ");
        ColumnTable u = new ColumnTable();
        Check.column(u, "a", 3);
        u.setLong(0, 0);
        u.setStep(0, -1);
        u.addRows(100);
        u.setStep(0, 1);
        u.addRows(100);
        u.addRows(100);
        u.selectAll();
        u.sortSelection(0, false);
        boolean isStable = u.selected(0) == 99 && u.selected(99) == 0 && u.selected(100) == 100 && u.selected(101) == 200;
        Check.due("300 rows", isStable && u.selected(299) == 299, true);
        Check.dueThrow("column", IndexOutOfBoundsException.class, () -> u.sortSelection(1, false));
        Check.due("none", table().sortSelection(0, true), 0);
    }

    private static void extreme() {
        ColumnTable t = table();
        Check.dueThrow("none selected", NoSuchElementException.class, () -> t.extreme(0, true));
        t.selectAll();
        Check.due("greatest", t.extreme(0, true), 0);
        Check.due("least: -0", t.extreme(0, false), 2);
        Check.due("greatest of equal ones", t.extreme(1, true), 0);
        Check.due("least of equal ones", t.extreme(1, false), 3);
        Check.due("true", t.extreme(2, true), 0);
        Check.due("false", t.extreme(2, false), 1);
        t.sortSelection(1, true);
        t.sortSelection(2, false);
        Check.due("the first one in the selection", t.extreme(0, true), 4);
        Check.select(t, "c is null");
        Check.dueThrow("no value", NoSuchElementException.class, () -> t.extreme(1, true));
        Check.dueThrow("column first", IndexOutOfBoundsException.class, () -> t.extreme(3, true));
    }

    private static void valueCount() {
        ColumnTable t = table();
        Check.due("none", t.valueCount(0), 0);
        t.selectAll();
        Check.due("all", t.valueCount(0) + " " + t.valueCount(1) + " " + t.valueCount(2), "4 4 4");
        Check.select(t, "c is null");
        Check.due("one", t.valueCount(0) + " " + t.valueCount(1), "1 0");
    }

    private static void sumLong() {
        ColumnTable t = table();
        Check.due("none", t.sumLong(1), 0L);
        t.selectAll();
        Check.due("shorts", t.sumLong(1), 24L);
        Check.due("booleans", t.sumLong(2), 2L);
        Check.dueThrow("doubles", IllegalArgumentException.class, () -> t.sumLong(0));
        ColumnTable u = new ColumnTable();
        Check.column(u, "a", 3);
        Check.column(u, "b", 4);
        u.setLong(0, Long.MAX_VALUE);
        u.addRows(2);
        u.selectAll();
        Check.due("wraps around", u.sumLong(0), -2L);
        Check.dueThrow("floats", IllegalArgumentException.class, () -> u.sumLong(1));
    }

    private static void sumDouble() {
        ColumnTable t = table();
        Check.due("none", t.sumDouble(0), 0.0);
        t.selectAll();
        Check.due("doubles", t.sumDouble(0), 4.0);
        Check.due("shorts", t.sumDouble(1), 24.0);
        Check.due("booleans", t.sumDouble(2), 2.0);
        Check.select(t, "b is null");
        Check.due("-0 added to 0", t.sumDouble(0), 0.0);
        ColumnTable u = new ColumnTable();
        Check.column(u, "a", 5);
        double[] values = {0.1, 1e9, 1e-9, -1e9, 0.3};
        for (double value : values) {
            u.setDouble(0, value);
            u.addRows(1);
        }
        u.selectAll();
        Check.due("in order", u.sumDouble(0), 0.1 + 1e9 + 1e-9 + -1e9 + 0.3);
        u.sortSelection(0, false);
        Check.due("in the order of the selection", u.sumDouble(0), -1e9 + 1e-9 + 0.1 + 0.3 + 1e9);
        ColumnTable v = new ColumnTable();
        Check.column(v, "a", 3);
        v.setLong(0, 9007199254740993L);
        v.addRows(2);
        v.selectAll();
        Check.due("each long as a double", v.sumDouble(0), 2 * 9007199254740992.0);
    }

    private static void noSuchColumn() {
        ColumnTable t = table();
        for (int column : new int[] {-1, 3, Integer.MAX_VALUE, Integer.MIN_VALUE}) {
            Check.dueThrow("sort", IndexOutOfBoundsException.class, () -> t.sortSelection(column, true));
            Check.dueThrow("extreme", IndexOutOfBoundsException.class, () -> t.extreme(column, true));
            Check.dueThrow("valueCount", IndexOutOfBoundsException.class, () -> t.valueCount(column));
            Check.dueThrow("sumLong", IndexOutOfBoundsException.class, () -> t.sumLong(column));
            Check.dueThrow("sumDouble", IndexOutOfBoundsException.class, () -> t.sumDouble(column));
        }
    }
}
