import java.util.function.BiConsumer;

/** Promises 46 to 53, sentence by sentence: groups, changes and the checksum. */
public final class Promises46To53Test {
    private static final Class<IndexOutOfBoundsException> INDEX = IndexOutOfBoundsException.class;
    private static final Class<IllegalArgumentException> ARGUMENT = IllegalArgumentException.class;
    private static final Class<IllegalStateException> STATE = IllegalStateException.class;
    private static final Class<ArithmeticException> ARITHMETIC = ArithmeticException.class;

    public static void main(String[] args) throws Exception {
        Sentences doc = new Sentences("promise", 46, 53);
        group(doc);
        groupThrows(doc);
        groupRow(doc);
        groupSize(doc);
        groupSum(doc);
        update(doc);
        multiply(doc);
        multiplyThrows(doc);
        delete(doc);
        digest(doc);
        doc.end();
    }

    /** Rows of a SHORT and b DOUBLE: 3 0.5, 1 1, null 2, 3 4, 1 null, 2 8. All are selected. */
    private static ColumnTable six() {
        ColumnTable t = Tables.of(4, 1, 5);
        double[][] rows = {{3, 0.5}, {1, 1}, {-1, 2}, {3, 4}, {1, -1}, {2, 8}};
        for (double[] row : rows) {
            for (int c = 0; c < 2; c++) {
                t.setNull(c);
                if (row[c] >= 0) {
                    t.setDouble(c, row[c]);
                }
            }
            t.addRows(1);
        }
        t.selectAll();
        return t;
    }

    private static ColumnTable selecting(String predicate) {
        ColumnTable t = six();
        Check.select(t, predicate);
        return t;
    }

    private static ColumnTable grouped() {
        ColumnTable t = six();
        t.group(0, 1);
        return t;
    }

    private static void grouped(String what, ColumnTable t, int column, int summed, String want) {
        int count = t.group(column, summed);
        Check.due(what, Tables.groups(t, count), want);
    }

    private static void group(Sentences doc) {
        doc.at("promise 46");
        doc.hold("Puts the selected rows that have a value in a column into groups, one for each different value.", () -> {
            grouped("three values", six(), 0, 1, "1 2 1.0; 5 1 8.0; 0 2 4.5");
            grouped("some rows", selecting("a <> 1"), 0, 1, "5 1 8.0; 0 2 4.5");
            ColumnTable z = Tables.doubles(16, 5, 0.0, -0.0, 0.0);
            z.selectAll();
            grouped("0 and -0 are different", z, 0, 0, "1 1 0.0; 0 2 0.0");
            ColumnTable b = Tables.longs(16, 0, 1, 0, 1, 1);
            b.selectAll();
            grouped("booleans", b, 0, 0, "1 1 0.0; 0 3 3.0");
            ColumnTable l = Tables.longs(16, 3, Long.MAX_VALUE, Long.MAX_VALUE - 1);
            l.selectAll();
            Check.due("values that are the same double", l.group(0, 0), 2);
        });
        doc.hold("The groups are numbered from 0, in ascending order of their values.", () -> {
            ColumnTable t = Tables.longs(16, 3, 5, Long.MAX_VALUE, -3, Long.MIN_VALUE, 0, 5);
            t.selectAll();
            t.sortSelection(0, true);
            grouped("longs", t, 0, 0, "3 1 -9.223372036854776E18; 2 1 -3.0; 4 1 0.0; 0 2 10.0; 1 1 9.223372036854776E18");
            ColumnTable d = Tables.doubles(16, 4, 0.5, -1e9, 1e9, -0.5);
            d.selectAll();
            grouped("floats", d, 0, 0, "1 1 -1.0E9; 3 1 -0.5; 0 1 0.5; 2 1 1.0E9");
        });
        doc.hold("They are kept, as they are now, until the next successful call.", () -> {
            ColumnTable t = grouped();
            String before = Tables.groups(t, 3);
            t.setLong(0, 9);
            t.update(0);
            t.multiply(1, 2);
            t.sortSelection(1, true);
            t.addRows(1);
            t.recluster(1);
            Check.dueThrow("no column", INDEX, () -> t.group(0, 2));
            Check.due("kept", Tables.groups(t, 3), before);
            t.selectAll();
            t.delete();
            t.compact();
            Check.due("kept without rows", Tables.groups(t, 3), before);
            Check.due("the next call", t.group(0, 1), 0);
            Check.dueThrow("replaces them", INDEX, () -> t.groupRow(0));
        });
        doc.hold("- `summed`: the column of which a sum is computed for each group", () -> {
            grouped("another one", six(), 0, 1, "1 2 1.0; 5 1 8.0; 0 2 4.5");
            grouped("the same", six(), 0, 0, "1 2 2.0; 5 1 2.0; 0 2 6.0");
            grouped("one with nulls alone in a group", six(), 1, 0, "0 1 3.0; 1 1 1.0; 2 1 0.0; 3 1 3.0; 5 1 2.0");
        });
        doc.hold("Returns the number of groups.", () -> {
            Check.due("three", six().group(0, 1), 3);
            Check.due("one", selecting("a = 3").group(0, 1), 1);
            Check.due("nulls alone", selecting("a is null").group(0, 1), 0);
            Check.due("no rows", selecting("a > 3").group(0, 1), 0);
            ColumnTable full = Tables.rising(64, 300);
            full.selectAll();
            Check.due("300", full.group(0, 0), 300);
            Check.due("the last one", full.groupRow(299) + " " + full.groupSize(299) + " " + full.groupSum(299), "299 1 299.0");
        });
    }

    private static void groupThrows(Sentences doc) {
        doc.hold("Throws `IndexOutOfBoundsException` if there is no such column", () -> {
            for (int column : new int[] {-1, 2, 8, Integer.MIN_VALUE, Integer.MAX_VALUE}) {
                Tables.refused("column " + column, INDEX, Promises46To53Test::grouped, t -> t.group(column, 0));
                Tables.refused("summed " + column, INDEX, Promises46To53Test::grouped, t -> t.group(0, column));
            }
            Tables.refused("no groups yet", INDEX, Promises46To53Test::six, t -> t.group(0, 2));
            Tables.refused("no columns", INDEX, ColumnTable::new, t -> t.group(0, 0));
        });
    }

    private static void noGroup(Sentences doc, BiConsumer<ColumnTable, Integer> call) {
        doc.hold("Throws `IllegalStateException` if there was no successful call of group", () -> {
            for (int group : new int[] {0, -1, 299, 300}) {
                Tables.refused("no call, group " + group, STATE, Promises46To53Test::six, t -> call.accept(t, group));
                Tables.refused("a call that failed, group " + group, STATE, () -> {
                    ColumnTable t = six();
                    Check.outcome(() -> t.group(0, 2));
                    Check.outcome(() -> t.group(-1, 0));
                    return t;
                }, t -> call.accept(t, group));
            }
            Tables.refused("a new table", STATE, ColumnTable::new, t -> call.accept(t, 0));
        });
        doc.hold("Throws `IndexOutOfBoundsException` if there is no such group", () -> {
            for (int group : new int[] {-1, 3, 299, 300, Integer.MIN_VALUE, Integer.MAX_VALUE}) {
                Tables.refused("group " + group, INDEX, Promises46To53Test::grouped, t -> call.accept(t, group));
            }
            Tables.refused("no groups", INDEX, () -> {
                ColumnTable t = selecting("a > 3");
                t.group(0, 1);
                return t;
            }, t -> call.accept(t, 0));
            Tables.refused("a group of an earlier call", INDEX, () -> {
                ColumnTable t = grouped();
                Check.select(t, "a = 3");
                t.group(0, 1);
                return t;
            }, t -> call.accept(t, 1));
        });
    }

    private static void groupRow(Sentences doc) {
        doc.at("promise 47");
        doc.hold("Returns its first row in the order that the selection had.", () -> {
            ColumnTable t = grouped();
            Check.due("storage order", t.groupRow(0) + " " + t.groupRow(1) + " " + t.groupRow(2), "1 5 0");
            t.sortSelection(1, true);
            Check.due("kept", t.groupRow(2), 0);
            t.group(0, 1);
            Check.due("sorted by b, descending", t.groupRow(0) + " " + t.groupRow(1) + " " + t.groupRow(2), "1 5 3");
            t.sortSelection(1, false);
            t.group(0, 1);
            Check.due("sorted by b, null first", t.groupRow(0), 4);
            t.delete();
            Check.due("of deleted rows, too", t.groupRow(0), 4);
        });
        noGroup(doc, ColumnTable::groupRow);
    }

    private static void groupSize(Sentences doc) {
        doc.at("promise 48");
        doc.hold("Returns the number of its rows.", () -> {
            ColumnTable t = grouped();
            Check.due("sizes", t.groupSize(0) + " " + t.groupSize(1) + " " + t.groupSize(2), "2 1 2");
            t.group(0, 1);
            Check.due("the same again", t.groupSize(0) + " " + t.groupSize(1) + " " + t.groupSize(2), "2 1 2");
            ColumnTable full = Tables.of(64, 0);
            full.setLong(0, 1);
            full.addRows(100);
            full.addRows(100);
            full.addRows(100);
            full.selectAll();
            full.group(0, 0);
            Check.due("300", full.groupSize(0), 300);
        });
        noGroup(doc, ColumnTable::groupSize);
    }

    private static void groupSum(Sentences doc) {
        doc.at("promise 49");
        doc.hold("Returns the sum of the values of the summed column in its rows, as sumDouble computes it.", () -> {
            ColumnTable t = grouped();
            Check.due("sums", t.groupSum(0) + " " + t.groupSum(1) + " " + t.groupSum(2), "1.0 8.0 4.5");
            t.group(0, 1);
            Check.due("the same again", t.groupSum(0) + " " + t.groupSum(1) + " " + t.groupSum(2), "1.0 8.0 4.5");
            ColumnTable z = Tables.of(16, 1, 5);
            z.setLong(0, 1);
            for (double value : new double[] {1e9, 1e-8, -1e9, 1e-8}) {
                z.setDouble(1, value);
                z.addRows(1);
            }
            z.selectAll();
            z.group(0, 1);
            Check.due("in the order of the selection", z.groupSum(0), z.sumDouble(1));
            z.sortSelection(1, false);
            z.group(0, 1);
            Check.due("in another order", z.groupSum(0), -1e9 + 1e-8 + 1e-8 + 1e9);
            z.setDouble(1, -0.0);
            z.update(1);
            z.group(0, 1);
            Check.due("0 and -0 is 0", z.groupSum(0), 0.0);
            z.setNull(1);
            z.update(1);
            z.group(0, 1);
            Check.due("no values", z.groupSum(0), 0.0);
            ColumnTable l = Tables.longs(16, 3, Long.MAX_VALUE, Long.MAX_VALUE);
            l.selectAll();
            l.group(0, 0);
            Check.due("as doubles, which do not wrap around", l.groupSum(0), 1.8446744073709552e19);
        });
        noGroup(doc, ColumnTable::groupSum);
    }

    private static void update(Sentences doc) {
        doc.at("promise 50");
        doc.hold("Sets the cells of a column in all selected rows to the cell of the pending row.", () -> {
            ColumnTable t = selecting("a = 1");
            t.setLong(0, 30000);
            t.setStep(0, 5);
            t.update(0);
            Check.due("without the step", t.getLong(1, 0) + " " + t.getLong(4, 0), "30000 30000");
            Check.due("not other rows", t.getLong(0, 0) + " " + t.isNull(2, 0) + " " + t.getLong(5, 0), "3 true 2");
            Check.due("not other columns", t.getDouble(1, 1) + " " + t.isNull(4, 1), "1.0 true");
            t.setNull(0);
            t.update(0);
            Check.due("to null", t.isNull(1, 0) + " " + t.isNull(4, 0), "true true");
            Check.due("the sealed segment's column", Tables.code(t, 0, 0), "2 20 1");
            double[] values = {0.5, -0.0, 0.0, -1e9, 1e9, 0.1f};
            for (int type = 0; type < 6; type++) {
                ColumnTable u = Tables.longs(2, type, 0, 1, 0);
                u.selectAll();
                if (type > 3) {
                    for (double value : values) {
                        u.setDouble(0, value);
                        u.update(0);
                        Check.due(value + " of type " + type, u.getDouble(0, 0) + " " + u.getDouble(2, 0), value + " " + value);
                    }
                } else {
                    u.setLong(0, 1);
                    u.update(0);
                    Check.due("type " + type, u.getLong(0, 0) + " " + u.getLong(1, 0) + " " + u.getLong(2, 0), "1 1 1");
                }
            }
        });
        doc.hold("Returns the number of selected rows.", () -> {
            Check.due("six", six().update(0), 6);
            Check.due("two", selecting("a = 1").update(1), 2);
            Check.due("none", selecting("a > 3").update(0), 0);
        });
        doc.hold("Throws `IndexOutOfBoundsException` if there is no such column", () -> {
            for (int column : new int[] {-1, 2, 8, Integer.MIN_VALUE, Integer.MAX_VALUE}) {
                Tables.refused("column " + column, INDEX, Promises46To53Test::six, t -> t.update(column));
                Tables.refused("column " + column + ", no rows", INDEX, () -> selecting("a > 3"), t -> t.update(column));
            }
        });
    }

    private static void multiply(Sentences doc) {
        doc.at("promise 51");
        doc.hold("Multiplies the values of a column in all selected rows that have one.", () -> {
            ColumnTable t = selecting("a >= 2 or a = 1");
            t.multiply(1, -2);
            Check.due("values", t.getDouble(0, 1) + " " + t.getDouble(1, 1) + " " + t.getDouble(5, 1), "-1.0 -2.0 -16.0");
            Check.due("not selected", t.getDouble(2, 1), 2.0);
            Check.due("null stays", t.isNull(4, 1), true);
            t.multiply(1, -0.0);
            Check.due("signs of zero", t.getDouble(0, 1), 0.0);
            t.multiply(1, -1);
            Check.due("and the other one", t.getDouble(0, 1), -0.0);
        });
        doc.hold("The product is computed with doubles, rounded to the nearest double, and for FLOAT then to the nearest float.", () -> {
            double[] values = {0.1, 3.3, -7.7, 1e-300, 123.456};
            for (double value : values) {
                for (double factor : new double[] {0.1, 3, -1.1, 1e-30, 1 / 3.0}) {
                    ColumnTable d = Tables.doubles(16, 5, value);
                    d.selectAll();
                    d.multiply(0, factor);
                    Check.due("double " + value + " * " + factor, d.getDouble(0, 0), value * factor);
                    ColumnTable f = Tables.doubles(16, 4, value);
                    f.selectAll();
                    f.multiply(0, factor);
                    Check.due("float " + value + " * " + factor, f.getDouble(0, 0), (double) (float) ((double) (float) value * factor));
                }
            }
            ColumnTable tie = Tables.doubles(16, 4, 1);
            tie.selectAll();
            tie.multiply(0, 1 + Math.scalb(1.0, -24));
            Check.due("a tie to the lower float", tie.getDouble(0, 0), 1.0);
            tie.multiply(0, 1 + 3 * Math.scalb(1.0, -24));
            Check.due("a tie to the upper float", tie.getDouble(0, 0), 1 + Math.scalb(1.0, -22));
        });
        doc.hold("Returns the number of values that were multiplied.", () -> {
            Check.due("nulls do not count", six().multiply(1, 2), 5);
            Check.due("selected rows alone", selecting("a = 1").multiply(1, 2), 1);
            Check.due("no values", selecting("b is null").multiply(1, 2), 0);
            Check.due("no rows", selecting("a > 3").multiply(1, 2), 0);
        });
    }

    private static ColumnTable selectedReals(int type, double... values) {
        ColumnTable t = Tables.doubles(2, type, values);
        t.selectAll();
        return t;
    }

    private static void multiplyThrows(Sentences doc) {
        doc.hold("Throws `IndexOutOfBoundsException` if there is no such column", () -> {
            for (int column : new int[] {-1, 2, 8, Integer.MIN_VALUE, Integer.MAX_VALUE}) {
                Tables.refused("column " + column, INDEX, Promises46To53Test::six, t -> t.multiply(column, 1));
            }
        });
        doc.hold("Throws `IllegalArgumentException` if the column is not of a floating type, or the absolute value of factor is greater"
                + " than 10^9", () -> {
            for (int type = 0; type < 4; type++) {
                int of = type;
                Tables.refused("type " + type, ARGUMENT, () -> Tables.longs(16, of, 1), t -> t.multiply(0, 1));
            }
            double[] factors = {Tables.BEYOND_LARGEST, -Tables.BEYOND_LARGEST, 1e300, Double.POSITIVE_INFINITY,
                Double.NEGATIVE_INFINITY, Double.NaN};
            for (int type = 4; type < 6; type++) {
                int of = type;
                for (double factor : factors) {
                    Tables.refused("factor " + factor, ARGUMENT, () -> selectedReals(of, 0, 1), t -> t.multiply(0, factor));
                    Tables.refused("factor " + factor + ", no rows", ARGUMENT, () -> Tables.of(16, of), t -> t.multiply(0, factor));
                }
                Check.due("10^9", selectedReals(type, 1).multiply(0, 1e9), 1);
                Check.due("-10^9", selectedReals(type, 1).multiply(0, -1e9), 1);
            }
        });
        doc.hold("Throws `ArithmeticException` if the absolute value of one of the results would be greater than 10^9", () -> {
            Tables.refused("the first one", ARITHMETIC, () -> selectedReals(5, 2, 1, 1), t -> t.multiply(0, 500000000.5));
            Tables.refused("the last one", ARITHMETIC, () -> selectedReals(5, 1, 1, 2), t -> t.multiply(0, 500000000.5));
            Tables.refused("below -10^9", ARITHMETIC, () -> selectedReals(5, 1, -2, 1), t -> t.multiply(0, 500000000.5));
            Tables.refused("by a negative factor", ARITHMETIC, () -> selectedReals(5, 1, 2, 1), t -> t.multiply(0, -500000000.5));
            Check.due("10^9", selectedReals(5, 2, -2).multiply(0, 500000000), 2);
            Tables.refused("hardly more", ARITHMETIC, () -> selectedReals(5, Math.nextUp(1.0)), t -> t.multiply(0, 1e9));
            Tables.refused("10^18", ARITHMETIC, () -> selectedReals(5, 1e9), t -> t.multiply(0, 1e9));
            Check.due("a FLOAT that is rounded to 10^9", selectedReals(4, 1).multiply(0, 1e9), 1);
            Check.due("from above, too", selectedReals(4, 1e9).multiply(0, 1 + 3.2e-8), 1);
            Tables.refused("a FLOAT that is not", ARITHMETIC, () -> selectedReals(4, 1e9), t -> t.multiply(0, 1 + 3.3e-8));
            ColumnTable full = Tables.of(64, 5);
            full.setDouble(0, 2);
            full.addRows(100);
            full.addRows(100);
            full.addRows(100);
            full.selectAll();
            Check.due("300 rows", full.multiply(0, 5e8), 300);
            Check.dueThrow("too large in all of them", ARITHMETIC, () -> full.multiply(0, 2));
            ColumnTable before = selectedReals(5, 1, 1e9);
            Check.select(before, "a = 1");
            Check.due("rows that were selected before do not count", before.multiply(0, 2), 1);
            ColumnTable other = selectedReals(5, 1e9, 1);
            Check.select(other, "a = 1");
            Check.due("rows that are not selected do not count", other.multiply(0, 2), 1);
        });
    }

    private static void delete(Sentences doc) {
        doc.at("promise 52");
        doc.hold("Deletes all selected rows.", () -> {
            ColumnTable t = selecting("a = 3");
            t.sortSelection(1, true);
            t.delete();
            Check.due("which", t.isDeleted(0) + " " + t.isDeleted(3) + " " + t.isDeleted(1), "true true false");
            Check.due("rows", t.rowCount() + " " + t.addedCount(), "4 6");
            Check.due("live ones of the segments", t.segmentLive(0) + " " + t.segmentLive(1), "2 2");
            Check.due("the selection is empty", t.selectedCount(), 0);
            Check.due("a second time", t.delete() + " " + t.rowCount(), "0 4");
        });
        doc.hold("Returns the number of deleted rows.", () -> {
            Check.due("two", selecting("a = 3").delete(), 2);
            Check.due("six", six().delete(), 6);
            Check.due("none", selecting("a > 3").delete(), 0);
            Check.due("of a new table", new ColumnTable().delete(), 0);
            ColumnTable full = Tables.rising(64, 300);
            full.selectAll();
            Check.due("300", full.delete(), 300);
        });
    }

    /** What the document says of the numbers: 19, times 31 plus x for each of them. */
    private static long checksum(long... numbers) {
        long d = 19;
        for (long x : numbers) {
            d = d * 31 + x;
        }
        return d;
    }

    private static void digest(Sentences doc) {
        doc.at("promise 53");
        doc.hold("Computes a checksum. A number d starts with 19; for each of the following numbers x, d becomes d * 31 + x, which wraps"
                + " around:", () -> {
            Check.due("a new table", new ColumnTable().digest(), checksum(0, 0, 0, 0));
            ColumnTable t = Tables.rising(2, 40);
            long[] numbers = new long[3 + 20 * 4 + 1];
            numbers[0] = 40;
            numbers[1] = 40;
            numbers[2] = 20;
            for (int s = 0; s < 20; s++) {
                numbers[3 + 4 * s] = 2;
                numbers[6 + 4 * s] = 128;
            }
            Check.due("far beyond 2^63", t.digest(), checksum(numbers));
        });
        doc.hold("addedCount(), rowCount(), the number of segments;", () -> {
            ColumnTable t = Tables.of(4, 3);
            Check.due("columns do not count", t.digest(), checksum(0, 0, 0, 0));
            t.addRows(3);
            Check.due("three rows", t.digest(), checksum(3, 3, 1, 3, 1, 0));
            Tables.drop(t, "a is null");
            Check.due("deleted", t.digest(), checksum(3, 0, 1, 3, 1, 0));
            t.compact();
            Check.due("compacted", t.digest(), checksum(3, 0, 0, 0));
        });
        doc.hold("for each segment the number of its rows and 1 if it is open, otherwise 0, and, if it is sealed, for each column the"
                + " encoding and the bits;", () -> {
            ColumnTable t = Tables.of(3, 3, 0);
            t.setLong(0, 5);
            t.setStep(0, 2);
            t.addRows(4);
            Check.due("sealed and open", t.digest(), checksum(4, 4, 2, 3, 0, 3, 128, 2, 0, 1, 1, 0));
            t.seal();
            Check.due("both sealed", t.digest(), checksum(4, 4, 2, 3, 0, 3, 128, 2, 0, 1, 0, 0, 64, 2, 0, 0));
            Tables.drop(t, "a = 5");
            Check.due("deleted rows count", t.digest(), checksum(4, 3, 2, 3, 0, 3, 128, 2, 0, 1, 0, 0, 64, 2, 0, 0));
        });
        doc.hold("the number of selected rows, and each selected row in the order of the selection.", () -> {
            ColumnTable t = Tables.rising(16, 3);
            t.selectAll();
            Check.due("three", t.digest(), checksum(3, 3, 1, 3, 1, 3, 0, 1, 2));
            t.sortSelection(0, true);
            Check.due("in their order", t.digest(), checksum(3, 3, 1, 3, 1, 3, 2, 1, 0));
            Check.select(t, "a = 1");
            Check.due("one", t.digest(), checksum(3, 3, 1, 3, 1, 1, 1));
        });
        doc.hold("Returns d.", () -> {
            ColumnTable t = Tables.rising(16, 3);
            Check.due("and changes nothing", t.digest(), t.digest());
            Check.due("the same calls, the same answer", Tables.rising(16, 3).digest(), t.digest());
        });
    }
}
