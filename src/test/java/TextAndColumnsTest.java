/** Promises 1 to 11: a new object, the text buffer, columns and the pending row. */
public final class TextAndColumnsTest {
    public static void main(String[] args) {
        newObject();
        feedAndTrim();
        addColumn();
        setSegmentSize();
        columnCountAndType();
        setNull();
        setLong();
        setDouble();
        setStep();
        Check.end();
    }

    private static void newObject() {
        ColumnTable t = new ColumnTable();
        Check.due("new: columns", t.columnCount(), 0);
        Check.due("new: added", t.addedCount(), 0);
        Check.due("new: rows", t.rowCount(), 0);
        Check.due("new: segments", t.segmentCount(), 0);
        Check.due("new: selection", t.selectedCount(), 0);
        Check.due("new: error kind", t.errorKind(), 0);
        Check.due("new: error position", t.errorPosition(), -1);
        Check.due("new: comparisons", t.comparisons(), 0L);
        Check.due("new: bits", t.totalBits(), 0L);
        Check.due("new: trim(0)", t.trim(0), 0);
        Check.dueThrow("new: trim(1)", IllegalArgumentException.class, () -> t.trim(1));
        Check.due("new: segment size", t.setSegmentSize(2), 16);
    }

    private static void feedAndTrim() {
        ColumnTable t = new ColumnTable();
        Check.due("feed", t.feed(0x61626364, 0x65666768, 0x696a6b6c, 0x6d6e6f70, 0x71727374), 20);
        Check.due("trim", t.trim(3), 3);
        Check.due("feed behind a trim", t.feed(-1, 0, 0, 0, 0), 23);
        Check.due("trim to all", t.trim(23), 23);
        Check.dueThrow("trim beyond", IllegalArgumentException.class, () -> t.trim(24));
        Check.dueThrow("trim below 0", IllegalArgumentException.class, () -> t.trim(-1));
        Check.due("trim back", t.trim(3), 3);
        Check.due("bytes from the highest", t.addColumn(3), 0);
        Check.due("named abc", Check.error(t, "abc = 1"), "none");
        for (int i = 1; i <= 10; i++) {
            Check.due("feed " + i, t.feed(0, 0, 0, 0, 0), 20 * i);
        }
        Check.dueThrow("feed beyond 200", IllegalStateException.class, () -> t.feed(0, 0, 0, 0, 0));
        Check.due("nothing was fed", t.trim(200), 200);
        t.trim(181);
        Check.dueThrow("feed beyond 200 by one", IllegalStateException.class, () -> t.feed(0, 0, 0, 0, 0));
        t.trim(180);
        Check.due("feed to 200", t.feed(0, 0, 0, 0, 0), 200);
        t.trim(0);
        // All five words reach their places: the error stands at the first wrong byte.
        Check.due("twentieth byte", Check.error(t, "abc = 1             ~"), "1 at 20");
        Check.due("a byte of 255 is not a blank", Check.error(t, "abc = 1\u00ff"), "1 at 7");
    }

    private static void addColumn() {
        ColumnTable t = new ColumnTable();
        Check.due("first column", Check.column(t, "a", 0), 0);
        Check.due("the buffer is empty then", t.trim(0), 0);
        Check.dueThrow("no name", IllegalArgumentException.class, () -> t.addColumn(0));
        Check.due("eight letters", Check.column(t, "abcdefgz", 5), 1);
        String[] wrong = {"abcdefghi", "A", "a1", "a ", " a", "and", "or", "not", "is", "null", "in", "a\u0000", "\u00e4"};
        for (String name : wrong) {
            Check.dueThrow("name " + name, IllegalArgumentException.class, () -> Check.column(t, name, 1));
            Check.dueThrow("empty behind " + name, IllegalArgumentException.class, () -> t.trim(1));
        }
        Check.dueThrow("type -1", IllegalArgumentException.class, () -> Check.column(t, "b", -1));
        Check.dueThrow("empty behind a wrong type", IllegalArgumentException.class, () -> t.trim(1));
        Check.dueThrow("type 6", IllegalArgumentException.class, () -> Check.column(t, "b", 6));
        Check.dueThrow("the same name", IllegalStateException.class, () -> Check.column(t, "a", 1));
        Check.dueThrow("empty behind a known name", IllegalArgumentException.class, () -> t.trim(1));
        Check.dueThrow("the type comes first", IllegalArgumentException.class, () -> Check.column(t, "a", 6));
        Check.due("words as parts of names", Check.column(t, "nota", 2), 2);
        for (int i = 3; i < 8; i++) {
            Check.due("column " + i, Check.column(t, "c" + (char) ('a' + i), i - 3), i);
        }
        Check.dueThrow("a ninth column", IllegalStateException.class, () -> Check.column(t, "z", 1));
        Check.due("eight columns", t.columnCount(), 8);
        ColumnTable u = new ColumnTable();
        Check.column(u, "a", 3);
        u.addRows(1);
        Check.dueThrow("a row was added", IllegalStateException.class, () -> Check.column(u, "b", 3));
        Check.dueThrow("a wrong name comes first", IllegalArgumentException.class, () -> Check.column(u, "b b", 3));
    }

    private static void setSegmentSize() {
        ColumnTable t = new ColumnTable();
        Check.due("size 2", t.setSegmentSize(2), 16);
        Check.due("size 64", t.setSegmentSize(64), 2);
        Check.dueThrow("size 1", IllegalArgumentException.class, () -> t.setSegmentSize(1));
        Check.dueThrow("size 65", IllegalArgumentException.class, () -> t.setSegmentSize(65));
        Check.due("size stays", t.setSegmentSize(3), 64);
        Check.column(t, "a", 3);
        t.addRows(4);
        Check.due("segments of 3", t.segmentRows(0), 3);
        Check.dueThrow("behind rows", IllegalStateException.class, () -> t.setSegmentSize(3));
        ColumnTable u = new ColumnTable();
        Check.column(u, "a", 3);
        u.addRows(1);
        Check.dueThrow("behind one row", IllegalStateException.class, () -> u.setSegmentSize(3));
        Check.dueThrow("a wrong size first", IllegalArgumentException.class, () -> t.setSegmentSize(0));
    }

    private static void columnCountAndType() {
        ColumnTable t = new ColumnTable();
        for (int i = 0; i < 6; i++) {
            Check.column(t, "c" + (char) ('a' + i), 5 - i);
            Check.due("count", t.columnCount(), i + 1);
            Check.due("type", t.type(i), 5 - i);
        }
        Check.dueThrow("type(-1)", IndexOutOfBoundsException.class, () -> t.type(-1));
        Check.dueThrow("type(6)", IndexOutOfBoundsException.class, () -> t.type(6));
        Check.dueThrow("type(8)", IndexOutOfBoundsException.class, () -> t.type(8));
    }

    private static void setNull() {
        ColumnTable t = new ColumnTable();
        Check.column(t, "a", 3);
        Check.due("null at first", t.setNull(0), true);
        t.setLong(0, 4);
        Check.due("not null", t.setNull(0), false);
        Check.due("null again", t.setNull(0), true);
        t.setStep(0, 5);
        t.addRows(2);
        Check.due("a null cell is null in all rows", t.isNull(0, 0) && t.isNull(1, 0), true);
        Check.dueThrow("setNull(-1)", IndexOutOfBoundsException.class, () -> t.setNull(-1));
        Check.dueThrow("setNull(1)", IndexOutOfBoundsException.class, () -> t.setNull(1));
    }

    private static ColumnTable allTypes() {
        ColumnTable t = new ColumnTable();
        for (int i = 0; i < 6; i++) {
            Check.column(t, "c" + (char) ('a' + i), i);
        }
        return t;
    }

    private static void setLong() {
        ColumnTable t = allTypes();
        long[][] right = {
            {0, 0}, {0, 1}, {1, -32768}, {1, 32767}, {2, 0}, {2, 65535}, {3, Long.MIN_VALUE}, {3, Long.MAX_VALUE},
            {4, 1000000000}, {4, -1000000000}, {5, 1000000000}, {5, -1000000000}, {5, 7}};
        for (long[] pair : right) {
            Check.due("setLong(" + pair[0] + ", " + pair[1] + ")", t.setLong((int) pair[0], pair[1]), pair[1]);
            Check.due("no longer null", t.setNull((int) pair[0]), false);
        }
        long[][] wrong = {
            {0, -1}, {0, 2}, {1, -32769}, {1, 32768}, {2, -1}, {2, 65536}, {4, 1000000001}, {4, -1000000001},
            {5, 1000000001}, {5, -1000000001}, {5, Long.MIN_VALUE}, {4, Long.MAX_VALUE}};
        for (long[] pair : wrong) {
            Check.dueThrow("setLong(" + pair[0] + ", " + pair[1] + ")", IllegalArgumentException.class,
                    () -> t.setLong((int) pair[0], pair[1]));
            Check.due("still null", t.setNull((int) pair[0]), true);
        }
        Check.due("to the nearest float", t.setLong(4, 16777217), 16777216L);
        Check.due("to the nearest float, up", t.setLong(4, 16777219), 16777220L);
        Check.dueThrow("no such column", IndexOutOfBoundsException.class, () -> t.setLong(6, 2));
        Check.dueThrow("no column -1", IndexOutOfBoundsException.class, () -> t.setLong(-1, 2));
    }

    private static void setDouble() {
        ColumnTable t = allTypes();
        Check.dueThrow("no double is a boolean", IllegalArgumentException.class, () -> t.setDouble(0, 1));
        Check.due("toward 0", t.setDouble(1, -3.99), -3.0);
        Check.due("toward 0, the last of the range", t.setDouble(1, 32767.9), 32767.0);
        Check.due("toward 0, from below", t.setDouble(2, -0.9), 0.0);
        Check.due("-0 of an integer type is 0", t.setDouble(3, -0.0), 0.0);
        Check.due("long", t.setDouble(3, 999999999.9), 999999999.0);
        Check.due("nearest float", t.setDouble(4, 0.1), (double) 0.1f);
        Check.due("nearest float of an even tie", t.setDouble(4, 16777217.0), 16777216.0);
        Check.due("a float of 10^9", t.setDouble(4, 1e9), 1e9);
        Check.due("double", t.setDouble(5, -0.1), -0.1);
        Check.due("-0", t.setDouble(5, -0.0), -0.0);
        Check.due("-0 as a float", t.setDouble(4, -1e-60), -0.0);
        Check.due("least double", t.setDouble(5, Double.MIN_VALUE), Double.MIN_VALUE);
        double[] tooLarge = {1000000000.1, -1000000000.1, Double.POSITIVE_INFINITY, Double.NEGATIVE_INFINITY, Double.NaN};
        for (int column = 1; column < 6; column++) {
            int c = column;
            for (double value : tooLarge) {
                Check.dueThrow("setDouble " + c + " " + value, IllegalArgumentException.class, () -> t.setDouble(c, value));
            }
        }
        Check.dueThrow("short", IllegalArgumentException.class, () -> t.setDouble(1, 32768));
        Check.dueThrow("short below", IllegalArgumentException.class, () -> t.setDouble(1, -32769));
        Check.dueThrow("char", IllegalArgumentException.class, () -> t.setDouble(2, -1));
        Check.dueThrow("char above", IllegalArgumentException.class, () -> t.setDouble(2, 65536));
        Check.dueThrow("no such column", IndexOutOfBoundsException.class, () -> t.setDouble(6, 2e9));
        t.addRows(1);
        Check.due("a refused value changes nothing", t.getDouble(0, 1), 32767.0);
    }

    private static void setStep() {
        ColumnTable t = allTypes();
        Check.dueThrow("boolean", IllegalArgumentException.class, () -> t.setStep(0, 0));
        Check.due("toward 0", t.setStep(1, -1.9), -1.0);
        Check.due("toward 0 to 0", t.setStep(2, -0.9), 0.0);
        Check.due("largest", t.setStep(3, 1000000.0), 1000000.0);
        Check.due("least", t.setStep(3, -1000000.0), -1000000.0);
        Check.due("float keeps a double", t.setStep(4, 0.1), 0.1);
        Check.due("double", t.setStep(5, -0.25), -0.25);
        for (int column = 1; column < 6; column++) {
            int c = column;
            Check.dueThrow("too large", IllegalArgumentException.class, () -> t.setStep(c, 1000000.5));
            Check.dueThrow("too small", IllegalArgumentException.class, () -> t.setStep(c, -1000000.5));
            Check.dueThrow("infinite", IllegalArgumentException.class, () -> t.setStep(c, Double.POSITIVE_INFINITY));
        }
        Check.dueThrow("no such column", IndexOutOfBoundsException.class, () -> t.setStep(6, 2e9));
        t.setDouble(5, 1);
        t.addRows(2);
        Check.due("a refused step changes nothing", t.getDouble(1, 5), 0.75);
    }
}
