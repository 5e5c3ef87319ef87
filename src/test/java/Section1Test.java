import java.util.NoSuchElementException;

/** Section 1 of the document, sentence by sentence: types, values and their conversions. */
public final class Section1Test {
    private static final int BOOLEAN = 0;
    private static final int SHORT = 1;
    private static final int CHAR = 2;
    private static final int LONG = 3;
    private static final int FLOAT = 4;
    private static final int DOUBLE = 5;

    public static void main(String[] args) throws Exception {
        Sentences doc = new Sentences("section", 1, 1);
        doc.at("section 1");
        types(doc);
        kinds(doc);
        zeros(doc);
        fromLong(doc);
        fromDouble(doc);
        fromColumn(doc);
        doc.end();
    }

    /** The two values make a full segment of two plain cells, whose bits tell the width. */
    private static void range(int type, long least, long greatest, long width) {
        ColumnTable t = Tables.longs(2, type, least, greatest);
        Check.due("the least value", t.getLong(0, 0), least);
        Check.due("the greatest value", t.getLong(1, 0), greatest);
        Check.due("two cells' bits", t.bits(0, 0), 2 * width);
        if (type != LONG) {
            Check.dueThrow("one less", IllegalArgumentException.class, () -> t.setLong(0, least - 1));
            Check.dueThrow("one more", IllegalArgumentException.class, () -> t.setLong(0, greatest + 1));
            Check.dueThrow("the least long", IllegalArgumentException.class, () -> t.setLong(0, Long.MIN_VALUE));
            Check.dueThrow("the greatest long", IllegalArgumentException.class, () -> t.setLong(0, Long.MAX_VALUE));
            Check.dueThrow("2^32", IllegalArgumentException.class, () -> t.setLong(0, 1L << 32));
        }
    }

    private static void types(Sentences doc) {
        doc.hold("The types are: 0 BOOLEAN (false or true; 1 bit wide),", () -> range(BOOLEAN, 0, 1, 1));
        doc.hold("1 SHORT (16-bit signed integer; 16 bits),", () -> range(SHORT, -32768, 32767, 16));
        doc.hold("2 CHAR (an integer from 0 to 65535; 16 bits),", () -> range(CHAR, 0, 65535, 16));
        doc.hold("3 LONG (64-bit signed integer; 64 bits),", () -> range(LONG, Long.MIN_VALUE, Long.MAX_VALUE, 64));
        doc.hold("4 FLOAT and 5 DOUBLE (binary floating-point numbers; 32 and 64 bits).", () -> {
            range(FLOAT, -1000000000, 1000000000, 32);
            range(DOUBLE, -1000000000, 1000000000, 64);
            ColumnTable t = Tables.of(16, FLOAT, DOUBLE);
            Check.due("0.1 as a float", t.setDouble(0, 0.1), (double) 0.1f);
            Check.due("0.1 as a double", t.setDouble(1, 0.1), 0.1);
        });
    }

    private static void kinds(Sentences doc) {
        doc.hold("SHORT, CHAR and LONG are the integer types, FLOAT and DOUBLE the floating types.", () -> {
            for (int type = BOOLEAN; type <= DOUBLE; type++) {
                ColumnTable t = Tables.of(16, type);
                boolean isFloating = type >= FLOAT;
                Check.due("sum of longs, type " + type, Check.outcome(() -> t.sumLong(0)),
                        isFloating ? "IllegalArgumentException" : "0");
                Check.due("product, type " + type, Check.outcome(() -> t.multiply(0, 2)),
                        isFloating ? "0" : "IllegalArgumentException");
                Check.due("a number with a point, type " + type, Check.error(t, "a = 1.5"),
                        isFloating ? "none" : type == BOOLEAN ? "3 at 0" : "4 at 4");
            }
        });
        doc.hold("A value of a floating type is never a not-a-number, and its absolute value is at most 10^9.", () -> {
            for (int type = FLOAT; type <= DOUBLE; type++) {
                ColumnTable t = Tables.of(16, type);
                Check.due("10^9", t.setDouble(0, 1e9), 1e9);
                Check.due("-10^9", t.setDouble(0, -1e9), -1e9);
                double[] refused = {Double.NaN, Tables.BEYOND_LARGEST, -Tables.BEYOND_LARGEST, 1e300,
                    Double.MAX_VALUE, Double.POSITIVE_INFINITY, Double.NEGATIVE_INFINITY};
                for (double value : refused) {
                    Check.dueThrow("" + value, IllegalArgumentException.class, () -> t.setDouble(0, value));
                }
                t.addRows(1);
                Check.due("the last one that was taken", t.getDouble(0, 0), -1e9);
            }
        });
        doc.hold("A cell contains a value of the type of its column, or it is null.", () -> {
            for (int type = BOOLEAN; type <= DOUBLE; type++) {
                ColumnTable t = Tables.longs(16, type, 0, 1);
                Tables.addNulls(t, 1);
                Check.due("cells of type " + type, t.getLong(0, 0) + " " + t.getLong(1, 0) + " " + t.isNull(2, 0), "0 1 true");
                Check.dueThrow("null is no value", NoSuchElementException.class, () -> t.getLong(2, 0));
            }
        });
    }

    private static void zeros(Sentences doc) {
        doc.hold("0 and -0 of a floating type are two different values, and -0 is less than 0, in sections 3, 6 and 7;", () -> {
            for (int type = FLOAT; type <= DOUBLE; type++) {
                ColumnTable t = Tables.doubles(64, type, 0.0, -0.0, 0.0, -0.0, 0.0, -0.0);
                t.seal();
                Check.due("a dictionary's values", Tables.code(t, 0, 0), "2 " + (2 * (type == FLOAT ? 32 : 64) + 6) + " 2");
                Check.due("the least value", t.zoneLow(0, 0), -0.0);
                Check.due("the greatest value", t.zoneHigh(0, 0), 0.0);
                t.selectAll();
                t.sortSelection(0, false);
                Check.due("sorted", Tables.selection(t), "1 3 5 0 2 4");
                Check.due("the least one", t.extreme(0, false), 1);
                Check.due("the greatest one", t.extreme(0, true), 0);
                t.sortSelection(0, true);
                Check.due("sorted the other way", Tables.selection(t), "0 2 4 1 3 5");
                Check.due("groups", t.group(0, 0), 2);
                Check.due("first rows and sizes", Tables.groups(t, 2), "1 3 0.0; 0 3 0.0");
                t.recluster(0);
                Check.due("reclustered", Check.picked(t, "a is not null"), "1 3 5 0 2 4 / 0");
                t.seal();
                Check.due("two runs take as many bits as the dictionary", t.encoding(0, 0), 1);
            }
            // Two runs of a run-length column: 2 * (32 + 7) bits; the dictionary takes 2 * 32 + 64.
            ColumnTable runs = Tables.of(64, FLOAT);
            runs.setDouble(0, 0.0);
            runs.addRows(32);
            runs.setDouble(0, -0.0);
            runs.addRows(32);
            Check.due("two runs", Tables.code(runs, 0, 0), "1 78 2");
        });
        doc.hold("only in predicates (sections 4 and 5) they are equal.", () -> {
            ColumnTable t = Tables.of(2, FLOAT, FLOAT);
            t.setDouble(0, 0.0);
            t.setDouble(1, -0.0);
            t.addRows(1);
            t.setDouble(0, -0.0);
            t.setDouble(1, 0.0);
            t.addRows(1);
            Check.due("to a constant, and the zone is one number", Check.picked(t, "a = 0"), "0 1 / 0");
            Check.due("to -0", Check.picked(t, "a = -0.0"), "0 1 / 0");
            Check.due("not less", Check.picked(t, "a < 0"), "/ 0");
            Check.due("not greater", Check.picked(t, "a > -0"), "/ 0");
            Check.due("in a range", Check.picked(t, "a in 0 .. -0"), "0 1 / 0");
            Check.due("to another column", Check.picked(t, "a = b"), "0 1 / 2");
            Check.due("not different from it", Check.picked(t, "a <> b"), "/ 2");
            Check.due("not less than it", Check.picked(t, "a < b or a > b"), "/ 4");
            Check.due("as a remainder", Check.picked(t, "a % 3 = 0"), "0 1 / 2");
        });
        doc.hold("false is less than true.", () -> {
            ColumnTable t = Tables.longs(3, BOOLEAN, 1, 0, 1);
            t.selectAll();
            t.sortSelection(0, false);
            Check.due("sorted", Tables.selection(t), "1 0 2");
            Check.due("the least value", t.extreme(0, false), 1);
            Check.due("the greatest value", t.extreme(0, true), 0);
            Check.due("the zone", t.zoneLow(0, 0) + " " + t.zoneHigh(0, 0), "0.0 1.0");
            t.group(0, 0);
            Check.due("groups", Tables.groups(t, 2), "1 1 0.0; 0 2 2.0");
        });
    }

    private static void fromLong(Sentences doc) {
        doc.hold("Conversion to a column. A long v can be converted to BOOLEAN if it is 0 (false) or 1 (true);", () -> {
            ColumnTable t = Tables.of(16, BOOLEAN);
            Check.due("0", t.setLong(0, 0), 0L);
            t.addRows(1);
            Check.due("1", t.setLong(0, 1), 1L);
            t.addRows(1);
            Check.due("true", Check.picked(t, "a"), "1 / 0");
            for (long value : new long[] {-1, 2, 256, 257, Long.MIN_VALUE, Long.MAX_VALUE}) {
                Check.dueThrow("" + value, IllegalArgumentException.class, () -> t.setLong(0, value));
            }
        });
        doc.hold("to SHORT, CHAR and LONG if it is in the range of the type;", () -> {
            ColumnTable t = Tables.of(16, SHORT, CHAR, LONG);
            long[][] fitting = {{0, -32768}, {0, 32767}, {1, 0}, {1, 65535}, {2, Long.MIN_VALUE}, {2, Long.MAX_VALUE}};
            for (long[] pair : fitting) {
                Check.due("column " + pair[0], t.setLong((int) pair[0], pair[1]), pair[1]);
            }
            long[][] outside = {{0, -32769}, {0, 32768}, {0, 65536}, {1, -1}, {1, 65536}, {1, Long.MIN_VALUE}};
            for (long[] pair : outside) {
                Check.dueThrow(pair[0] + " " + pair[1], IllegalArgumentException.class,
                        () -> t.setLong((int) pair[0], pair[1]));
            }
        });
        doc.hold("to FLOAT and DOUBLE if its absolute value is at most 10^9;", () -> {
            for (int type = FLOAT; type <= DOUBLE; type++) {
                ColumnTable t = Tables.of(16, type);
                Check.due("10^9", t.setLong(0, 1000000000), 1000000000L);
                Check.due("-10^9", t.setLong(0, -1000000000), -1000000000L);
                for (long value : new long[] {1000000001, -1000000001, Long.MIN_VALUE, Long.MIN_VALUE + 1, Long.MAX_VALUE}) {
                    Check.dueThrow("" + value, IllegalArgumentException.class, () -> t.setLong(0, value));
                }
            }
        });
        doc.hold("it becomes the nearest number (of two equally near ones the one whose last bit is 0).", () -> {
            ColumnTable t = Tables.of(16, FLOAT, DOUBLE);
            Check.due("2^24, exact", t.setLong(0, 16777216), 16777216L);
            Check.due("2^24 + 1, a tie to the lower one", t.setLong(0, 16777217), 16777216L);
            Check.due("2^24 + 3, a tie to the upper one", t.setLong(0, 16777219), 16777220L);
            Check.due("-2^24 - 1", t.setLong(0, -16777217), -16777216L);
            Check.due("-2^24 - 3", t.setLong(0, -16777219), -16777220L);
            Check.due("2^25 + 1, nearer below", t.setLong(0, 33554433), 33554432L);
            Check.due("2^25 + 3, nearer above", t.setLong(0, 33554435), 33554436L);
            Check.due("10^9 - 1 is nearest to 10^9", t.setLong(0, 999999999), 1000000000L);
            Check.due("as a double it is exact", t.setLong(1, 999999999), 999999999L);
        });
    }

    private static void fromDouble(Sentences doc) {
        doc.hold("A double v can be converted only if its absolute value is at most 10^9:", () -> {
            for (int type = SHORT; type <= DOUBLE; type++) {
                ColumnTable t = Tables.of(16, type);
                for (double value : new double[] {Tables.BEYOND_LARGEST, -Tables.BEYOND_LARGEST, 1e18, Double.NaN}) {
                    Check.dueThrow(type + " " + value, IllegalArgumentException.class, () -> t.setDouble(0, value));
                }
            }
            ColumnTable t = Tables.of(16, LONG);
            Check.due("10^9 as a LONG", t.setDouble(0, 1e9), 1e9);
            Check.due("-10^9 as a LONG", t.setDouble(0, -1e9), -1e9);
        });
        doc.hold("to SHORT, CHAR and LONG it is rounded toward 0, and then converted as a long;", () -> {
            ColumnTable t = Tables.of(16, SHORT, CHAR, LONG);
            Check.due("just below 32768", t.setDouble(0, Math.nextDown(32768.0)), 32767.0);
            Check.due("just above -32769", t.setDouble(0, Math.nextUp(-32769.0)), -32768.0);
            Check.dueThrow("32768", IllegalArgumentException.class, () -> t.setDouble(0, 32768));
            Check.dueThrow("-32769", IllegalArgumentException.class, () -> t.setDouble(0, -32769));
            Check.due("just below 65536", t.setDouble(1, Math.nextDown(65536.0)), 65535.0);
            Check.due("just above -1", t.setDouble(1, Math.nextUp(-1.0)), 0.0);
            Check.dueThrow("65536", IllegalArgumentException.class, () -> t.setDouble(1, 65536));
            Check.dueThrow("-1", IllegalArgumentException.class, () -> t.setDouble(1, -1));
            Check.due("2.9", t.setDouble(2, 2.9), 2.0);
            Check.due("-2.9", t.setDouble(2, -2.9), -2.0);
            Check.due("-0", t.setDouble(2, -0.0), 0.0);
            Check.due("the least double", t.setDouble(2, Double.MIN_VALUE), 0.0);
            Check.due("just below 10^9", t.setDouble(2, Math.nextDown(1e9)), 999999999.0);
        });
        doc.hold("to FLOAT it becomes the nearest number, in the same way as above;", () -> {
            ColumnTable t = Tables.of(16, FLOAT);
            double gap = Math.scalb(1.0, -24);
            Check.due("a tie to the lower one", t.setDouble(0, 1 + gap), 1.0);
            Check.due("a little more than a tie", t.setDouble(0, Math.nextUp(1 + gap)), (double) Math.nextUp(1f));
            Check.due("a tie to the upper one", t.setDouble(0, 1 + 3 * gap), 1 + 4 * gap);
            Check.due("a little less than a tie", t.setDouble(0, Math.nextDown(1 + 3 * gap)), 1 + 2 * gap);
            Check.due("half of the least float", t.setDouble(0, Float.MIN_VALUE / 2.0), 0.0);
            Check.due("a little more than half of it", t.setDouble(0, Math.nextUp(Float.MIN_VALUE / 2.0)), (double) Float.MIN_VALUE);
            Check.due("minus half of it", t.setDouble(0, -Float.MIN_VALUE / 2.0), -0.0);
            Check.due("-0", t.setDouble(0, -0.0), -0.0);
            Check.due("just below 10^9", t.setDouble(0, Math.nextDown(1e9)), 1e9);
            Check.dueThrow("just above 10^9, though its nearest float is 10^9", IllegalArgumentException.class,
                    () -> t.setDouble(0, Tables.BEYOND_LARGEST));
        });
        doc.hold("to DOUBLE it is v;", () -> {
            ColumnTable t = Tables.of(16, DOUBLE);
            for (double value : new double[] {0.0, -0.0, 0.1, Double.MIN_VALUE, Math.nextDown(1e9), 1e9, -1e9}) {
                Check.due("" + value, t.setDouble(0, value), value);
            }
        });
        doc.hold("to BOOLEAN it cannot be converted.", () -> {
            ColumnTable t = Tables.of(16, BOOLEAN);
            for (double value : new double[] {0.0, -0.0, 1.0, 0.5, Double.NaN}) {
                Check.dueThrow("" + value, IllegalArgumentException.class, () -> t.setDouble(0, value));
            }
        });
    }

    private static void fromColumn(Sentences doc) {
        doc.hold("Conversion from a column. To a long: false is 0, true is 1;", () -> {
            ColumnTable t = Tables.longs(16, BOOLEAN, 0, 1);
            Check.due("false", t.getLong(0, 0), 0L);
            Check.due("true", t.getLong(1, 0), 1L);
        });
        doc.hold("a floating value is rounded toward 0.", () -> {
            for (int type = FLOAT; type <= DOUBLE; type++) {
                ColumnTable t = Tables.doubles(16, type, 2.75, -2.75, 0.99, -0.99, -0.0, 1e9, -1e9);
                Check.due("2.75", t.getLong(0, 0), 2L);
                Check.due("-2.75", t.getLong(1, 0), -2L);
                Check.due("0.99", t.getLong(2, 0), 0L);
                Check.due("-0.99", t.getLong(3, 0), 0L);
                Check.due("-0", t.getLong(4, 0), 0L);
                Check.due("10^9", t.getLong(5, 0), 1000000000L);
                Check.due("-10^9", t.getLong(6, 0), -1000000000L);
            }
            ColumnTable d = Tables.doubles(16, DOUBLE, Math.nextDown(1e9));
            Check.due("just below 10^9", d.getLong(0, 0), 999999999L);
        });
        doc.hold("To a double: false is 0, true is 1;", () -> {
            ColumnTable t = Tables.longs(16, BOOLEAN, 0, 1);
            Check.due("false", t.getDouble(0, 0), 0.0);
            Check.due("true", t.getDouble(1, 0), 1.0);
        });
        doc.hold("a LONG becomes the nearest double;", () -> {
            long exact = 1L << 53;
            ColumnTable t = Tables.longs(16, LONG, exact, exact + 1, exact + 3, -exact - 1, Long.MAX_VALUE, Long.MIN_VALUE);
            Check.due("2^53", t.getDouble(0, 0), 9007199254740992.0);
            Check.due("2^53 + 1, a tie to the lower one", t.getDouble(1, 0), 9007199254740992.0);
            Check.due("2^53 + 3, a tie to the upper one", t.getDouble(2, 0), 9007199254740996.0);
            Check.due("-2^53 - 1", t.getDouble(3, 0), -9007199254740992.0);
            Check.due("2^63 - 1", t.getDouble(4, 0), 9223372036854775808.0);
            Check.due("-2^63", t.getDouble(5, 0), -9223372036854775808.0);
        });
        doc.hold("the values of the other types do not change.", () -> {
            Check.due("SHORT", Tables.longs(16, SHORT, -32768).getDouble(0, 0), -32768.0);
            Check.due("CHAR", Tables.longs(16, CHAR, 65535).getDouble(0, 0), 65535.0);
            Check.due("FLOAT", Tables.doubles(16, FLOAT, 0.1f).getDouble(0, 0), (double) 0.1f);
            Check.due("FLOAT -0", Tables.doubles(16, FLOAT, -0.0).getDouble(0, 0), -0.0);
            Check.due("DOUBLE", Tables.doubles(16, DOUBLE, 0.1).getDouble(0, 0), 0.1);
            Check.due("the least DOUBLE", Tables.doubles(16, DOUBLE, Double.MIN_VALUE).getDouble(0, 0), Double.MIN_VALUE);
        });
    }
}
