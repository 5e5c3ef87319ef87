/** Promises 46 to 53: groups, changes and the checksum. */
public final class GroupsAndChangesTest {
    public static void main(String[] args) {
        group();
        groupOrder();
        groupErrors();
        groupsAreKept();
        update();
        multiply();
        multiplyErrors();
        delete();
        digest();
        Check.end();
    }

    private static ColumnTable table(int... types) {
        ColumnTable t = new ColumnTable();
        for (int i = 0; i < types.length; i++) {
            Check.column(t, "" + (char) ('a' + i), types[i]);
        }
        return t;
    }

    /** a: 3 1 null 3 1 2; b: 0.5 1 2 4 null 8. */
    private static ColumnTable sample() {
        ColumnTable t = table(1, 5);
        double[][] rows = {{3, 0.5}, {1, 1}, {-1, 2}, {3, 4}, {1, -1}, {2, 8}};
        for (double[] row : rows) {
            t.setNull(0);
            t.setNull(1);
            if (row[0] >= 0) {
                t.setDouble(0, row[0]);
            }
            if (row[1] >= 0) {
                t.setDouble(1, row[1]);
            }
            t.addRows(1);
        }
        t.selectAll();
        return t;
    }

    private static String groups(ColumnTable t, int count) {
        StringBuilder result = new StringBuilder();
        for (int i = 0; i < count; i++) {
            result.append(t.groupRow(i)).append(' ').append(t.groupSize(i)).append(' ').append(t.groupSum(i)).append("; ");
        }
        return result.toString();
    }

    private static void group() {
        ColumnTable t = sample();
        Check.due("groups", t.group(0, 1), 3);
        Check.due("of shorts", groups(t, 3), "1 2 1.0; 5 1 8.0; 0 2 4.5; ");
        Check.due("groups of doubles", t.group(1, 0), 5);
        Check.due("of doubles", groups(t, 5), "0 1 3.0; 1 1 1.0; 2 1 0.0; 3 1 3.0; 5 1 2.0; ");
        Check.due("summed by itself", t.group(0, 0), 3);
        Check.due("sums", groups(t, 3), "1 2 2.0; 5 1 2.0; 0 2 6.0; ");
        ColumnTable u = table(5, 0);
        for (double value : new double[] {0.0, -0.0, 0.0}) {
            u.setDouble(0, value);
            u.setLong(1, 1);
            u.addRows(1);
        }
        u.selectAll();
        Check.due("-0 and 0", u.group(0, 1), 2);
        Check.due("are two groups", groups(u, 2), "1 1 1.0; 0 2 2.0; ");
    }

    private static void groupOrder() {
        ColumnTable t = table(1, 5);
        t.setLong(0, 4);
        for (double value : new double[] {1e9, 1e-9, -1e9}) {
            t.setDouble(1, value);
            t.addRows(1);
        }
        t.selectAll();
        t.group(0, 1);
        Check.due("added in the order of the selection", t.groupSum(0), 1e9 + 1e-9 + -1e9);
        t.sortSelection(1, true);
        t.group(0, 1);
        Check.due("first row", t.groupRow(0), 0);
        t.sortSelection(1, false);
        t.group(0, 1);
        Check.due("first row then", t.groupRow(0), 2);
        Check.due("added in that order", t.groupSum(0), -1e9 + 1e-9 + 1e9);
        t.setDouble(1, -0.0);
        t.update(1);
        t.group(0, 1);
        Check.due("added to 0", t.groupSum(0), 0.0);
    }

    private static void groupErrors() {
        ColumnTable t = sample();
        Check.dueThrow("row, no groups", IllegalStateException.class, () -> t.groupRow(0));
        Check.dueThrow("size, no groups", IllegalStateException.class, () -> t.groupSize(0));
        Check.dueThrow("sum, no groups", IllegalStateException.class, () -> t.groupSum(-1));
        for (int[] p : new int[][] {{-1, 0}, {2, 0}, {0, -1}, {0, 2}}) {
            Check.dueThrow("group", IndexOutOfBoundsException.class, () -> t.group(p[0], p[1]));
        }
        Check.dueThrow("still no groups", IllegalStateException.class, () -> t.groupRow(0));
        t.group(0, 1);
        Check.dueThrow("no column", IndexOutOfBoundsException.class, () -> t.group(0, 2));
        Check.due("a call that fails keeps the groups", t.groupSize(2), 2);
        for (int group : new int[] {-1, 3}) {
            Check.dueThrow("row", IndexOutOfBoundsException.class, () -> t.groupRow(group));
            Check.dueThrow("size", IndexOutOfBoundsException.class, () -> t.groupSize(group));
            Check.dueThrow("sum", IndexOutOfBoundsException.class, () -> t.groupSum(group));
        }
        t.delete();
        Check.due("no rows, no groups", t.group(0, 1), 0);
        Check.dueThrow("of none", IndexOutOfBoundsException.class, () -> t.groupRow(0));
    }

    private static void groupsAreKept() {
        ColumnTable t = sample();
        t.group(0, 1);
        String before = groups(t, 3);
        t.setLong(0, 9);
        t.update(0);
        t.multiply(1, 2);
        t.sortSelection(1, true);
        t.delete();
        t.compact();
        t.selectAll();
        Check.due("kept as they were", groups(t, 3), before);
    }

    private static void update() {
        ColumnTable t = sample();
        Check.select(t, "a = 1");
        t.setLong(0, 30000);
        t.setStep(0, 5);
        Check.due("rows", t.update(0), 2);
        Check.due("values", t.getLong(1, 0) + " " + t.getLong(4, 0), "30000 30000");
        Check.due("others", t.getLong(0, 0) + " " + t.getLong(5, 0), "3 2");
        t.setNull(0);
        Check.due("rows again", t.update(0), 2);
        Check.due("nulls", t.isNull(1, 0) && t.isNull(4, 0), true);
        Check.select(t, "a = 30000");
        Check.due("no rows", t.update(0), 0);
        Check.dueThrow("no column", IndexOutOfBoundsException.class, () -> t.update(2));
        Check.dueThrow("column -1", IndexOutOfBoundsException.class, () -> t.update(-1));
        t.selectAll();
        t.setDouble(1, -0.0);
        Check.due("doubles", t.update(1), 6);
        Check.due("-0", t.getDouble(3, 1), -0.0);
    }

    private static void multiply() {
        ColumnTable t = sample();
        Check.due("values", t.multiply(1, 3), 5);
        Check.due("products", t.getDouble(0, 1) + " " + t.getDouble(5, 1), "1.5 24.0");
        Check.due("null stays", t.isNull(4, 1), true);
        Check.due("by -0", t.multiply(1, -0.0), 5);
        Check.due("-0", t.getDouble(0, 1), -0.0);
        ColumnTable u = table(4);
        u.setDouble(0, 0.1);
        u.addRows(1);
        u.selectAll();
        u.multiply(0, 0.1);
        Check.due("a float", u.getDouble(0, 0), (double) (float) ((double) 0.1f * 0.1));
        u.setDouble(0, 1);
        u.update(0);
        Check.due("10^9", u.multiply(0, 1e9), 1);
        Check.due("the nearest float is 10^9", u.multiply(0, 1.00000001), 1);
        Check.due("so it is", u.getDouble(0, 0), 1e9);
        Check.dueThrow("beyond it", ArithmeticException.class, () -> u.multiply(0, 1.0000001));
    }

    private static void multiplyErrors() {
        ColumnTable t = table(0, 1, 2, 3, 4, 5);
        for (int i = 0; i < 4; i++) {
            int column = i;
            Check.dueThrow("type " + i, IllegalArgumentException.class, () -> t.multiply(column, 1));
        }
        for (double factor : new double[] {1000000000.1, -1000000000.1, Double.POSITIVE_INFINITY, Double.NEGATIVE_INFINITY}) {
            Check.dueThrow("factor", IllegalArgumentException.class, () -> t.multiply(4, factor));
            Check.dueThrow("factor", IllegalArgumentException.class, () -> t.multiply(5, factor));
        }
        Check.dueThrow("no column", IndexOutOfBoundsException.class, () -> t.multiply(6, 2e9));
        Check.dueThrow("column -1", IndexOutOfBoundsException.class, () -> t.multiply(-1, 1));
        Check.due("none selected", t.multiply(5, 1e9), 0);
        t.setDouble(5, 2);
        t.addRows(1);
        t.setDouble(5, 1.5);
        t.addRows(1);
        t.selectAll();
        Check.dueThrow("a product too large", ArithmeticException.class, () -> t.multiply(5, 600000000));
        Check.dueThrow("or too small", ArithmeticException.class, () -> t.multiply(5, -600000000));
        t.sortSelection(5, false);
        Check.dueThrow("the second one", ArithmeticException.class, () -> t.multiply(5, 600000000));
        Check.due("nothing was changed", t.getDouble(0, 5) + " " + t.getDouble(1, 5), "2.0 1.5");
        Check.due("10^9", t.multiply(5, 5e8), 2);
    }

    private static void delete() {
        ColumnTable t = sample();
        Check.select(t, "a = 3");
        Check.due("deleted", t.delete(), 2);
        Check.due("selection", t.selectedCount(), 0);
        Check.due("rows", t.rowCount(), 4);
        Check.due("which", t.isDeleted(0) + " " + t.isDeleted(3) + " " + t.isDeleted(1), "true true false");
        Check.due("again", t.delete(), 0);
        Check.due("rows then", t.rowCount(), 4);
    }

    private static void digest() {
        ColumnTable none = new ColumnTable();
        Check.due("empty", none.digest(), 19L * 31 * 31 * 31 * 31);
        ColumnTable t = table(3, 0);
        t.setSegmentSize(2);
        t.setLong(0, 5);
        t.addRows(3);
        t.selectAll();
        t.sortSelection(0, false);
        long d = 19;
        long[] numbers = {3, 3, 2, 2, 0, t.encoding(0, 0), t.bits(0, 0), t.encoding(0, 1), t.bits(0, 1), 1, 1, 3, 0, 1, 2};
        for (long number : numbers) {
            d = d * 31 + number;
        }
        Check.due("with an open segment", t.digest(), d);
        Check.select(t, "b");
        Check.due("the selection counts", t.digest() != d, true);
    }
}
