import java.util.NoSuchElementException;
import java.util.function.BiConsumer;

/** Promises 20 to 33, sentence by sentence: segments, their encodings and zones. */
public final class Promises20To33Test {
    private static final Class<IndexOutOfBoundsException> INDEX = IndexOutOfBoundsException.class;
    private static final Class<IllegalStateException> STATE = IllegalStateException.class;
    private static final Class<NoSuchElementException> ELEMENT = NoSuchElementException.class;
    private static final String NO_SEGMENT = "Throws `IndexOutOfBoundsException` if there is no such segment";
    private static final String NO_PART = "Throws `IndexOutOfBoundsException` if there is no such segment or column";
    private static final String OPEN = "Throws `IllegalStateException` if the segment is open";
    private static final String ALL_NULL = "Throws `NoSuchElementException` if all cells of the column in this segment are null";

    public static void main(String[] args) throws Exception {
        Sentences doc = new Sentences("promise", 20, 33);
        seal(doc);
        compact(doc);
        recluster(doc);
        segmentCountAndOf(doc);
        rowsAndLive(doc);
        isOpen(doc);
        encoding(doc);
        bits(doc);
        units(doc);
        totalBits(doc);
        zoneLow(doc);
        zoneHigh(doc);
        doc.end();
    }

    /** "4 4 2+" are two sealed segments of 4 rows and an open one of 2. */
    private static String shape(ColumnTable t) {
        StringBuilder result = new StringBuilder();
        for (int s = 0; s < t.segmentCount(); s++) {
            result.append(s == 0 ? "" : " ").append(t.segmentRows(s)).append(t.isOpen(s) ? "+" : "");
        }
        return result.toString();
    }

    private static ColumnTable without(ColumnTable t, String predicate) {
        Tables.drop(t, predicate);
        return t;
    }

    private static void seal(Sentences doc) {
        doc.at("promise 20");
        doc.hold("Seals the open segment.", () -> {
            ColumnTable t = Tables.rising(4, 5);
            t.seal();
            Check.due("sealed", shape(t), "4 1");
            Check.due("encoded", Tables.code(t, 1, 0), "0 64 1");
            t.addRows(1);
            Check.due("the next row stands in another one", shape(t), "4 1 1+");
            ColumnTable d = without(Tables.rising(4, 6), "a >= 4");
            d.seal();
            Check.due("a segment of deleted rows, too", shape(d) + " " + d.segmentLive(1), "4 2 0");
        });
        doc.hold("Returns the number of the segment.", () -> {
            Check.due("the first one", Tables.rising(4, 1).seal(), 0);
            Check.due("the first one of S - 1 rows", Tables.rising(64, 63).seal(), 0);
            ColumnTable t = Tables.rising(4, 5);
            Check.due("the second one", t.seal(), 1);
            t.addRows(1);
            Check.due("the third one", t.seal(), 2);
            ColumnTable many = Tables.of(2, 3);
            for (int i = 0; i < 100; i++) {
                many.addRows(1);
                Check.due("one of many", many.seal(), i);
            }
        });
        doc.hold("Throws `IllegalStateException` if no segment is open", () -> {
            Tables.refused("no segment", STATE, () -> Tables.of(4, 3), t -> t.seal());
            Tables.refused("no column", STATE, ColumnTable::new, t -> t.seal());
            Tables.refused("a full segment", STATE, () -> Tables.rising(4, 4), t -> t.seal());
            Tables.refused("two full segments", STATE, () -> Tables.rising(4, 8), t -> t.seal());
            Tables.refused("sealed before", STATE, () -> {
                ColumnTable t = Tables.rising(4, 3);
                t.seal();
                return t;
            }, t -> t.seal());
            Tables.refused("compacted to full segments", STATE, () -> {
                ColumnTable t = without(Tables.rising(4, 6), "a < 2");
                t.compact();
                return t;
            }, t -> t.seal());
            Tables.refused("compacted to none", STATE, () -> {
                ColumnTable t = without(Tables.rising(4, 6), "a >= 0");
                t.compact();
                return t;
            }, t -> t.seal());
        });
    }

    private static void compact(Sentences doc) {
        doc.at("promise 21");
        doc.hold("Compacts the table: all rows that are not deleted are stored, in storage order, in new segments;", () -> {
            ColumnTable t = Tables.rising(4, 9);
            Tables.drop(t, "a % 2 = 1");
            t.compact();
            t.selectAll();
            Check.due("the rows", Tables.selection(t), "0 2 4 6 8");
            Check.due("each of them once", Check.picked(t, "a is not null"), "0 2 4 6 8 / 0");
            Check.due("their segments", t.segmentOf(6) + " " + t.segmentOf(8), "0 1");
            Check.due("encoded without the deleted ones", Tables.code(t, 0, 0), "3 128 4");
            Check.due("the values", t.getLong(6, 0) + " " + t.getLong(8, 0), "6 8");
            ColumnTable r = Tables.longs(2, 3, 3, 1, 2);
            r.recluster(0);
            r.compact();
            r.selectAll();
            Check.due("storage order, not that of numbers", Tables.selection(r), "1 2 0");
            r.sortSelection(0, true);
            r.compact();
            r.selectAll();
            Check.due("nor that of the selection", Tables.selection(r), "1 2 0");
        });
        doc.hold("each of these has S rows and is sealed, except the last one, which is open if it has fewer rows.", () -> {
            for (int rows = 0; rows <= 9; rows++) {
                ColumnTable t = Tables.of(4, 3);
                for (int i = 0; i < rows; i++) {
                    t.addRows(1);
                    t.seal();
                }
                t.compact();
                String want = "4 ".repeat(rows / 4) + (rows % 4 == 0 ? "" : rows % 4 + "+");
                Check.due(rows + " rows", shape(t), want.trim());
            }
            ColumnTable t = Tables.rising(4, 3);
            t.seal();
            t.compact();
            Check.due("a sealed one is opened", shape(t), "3+");
            t.addRows(1);
            Check.due("and filled", shape(t), "4");
        });
        doc.hold("Returns the number of segments afterwards.", () -> {
            Check.due("no columns", new ColumnTable().compact(), 0);
            Check.due("no rows", Tables.of(4, 3).compact(), 0);
            Check.due("all rows deleted", without(Tables.rising(4, 9), "a >= 0").compact(), 0);
            Check.due("one row left", without(Tables.rising(4, 9), "a > 0").compact(), 1);
            Check.due("4 rows left", without(Tables.rising(4, 9), "a > 3").compact(), 1);
            Check.due("5 rows left", without(Tables.rising(4, 9), "a > 4").compact(), 2);
            Check.due("300 rows of 2 each", Tables.rising(2, 300).compact(), 150);
        });
    }

    private static void recluster(Sentences doc) {
        doc.at("promise 22");
        doc.hold("Reclusters the table: does the same as compact, but the rows are stored in ascending order of their cells in a column"
                + " (section 6);", () -> {
            ColumnTable t = Tables.doubles(2, 5, 2, 0, -0.0, 1, -3);
            Tables.addNulls(t, 1);
            t.recluster(0);
            t.selectAll();
            Check.due("null first, then -3, -0, 0, 1, 2", Tables.selection(t), "5 4 2 1 3 0");
            Check.due("shape", shape(t), "2 2 2");
            Tables.drop(t, "a = 0");
            t.recluster(0);
            Check.due("without deleted rows", Check.picked(t, "a is null or a is not null"), "5 4 3 0 / 0");
            Check.due("in as many segments as they need", shape(t), "2 2");
            ColumnTable d = Tables.rising(4, 7);
            d.setLong(0, -5);
            d.addRows(1);
            Tables.drop(d, "a = 3");
            Check.due("the last one is open with fewer rows", d.recluster(0) + ", " + shape(d), "2, 4 3+");
            Check.due("the least value first", d.segmentOf(7), 0);
            Check.due("encoded: -5, 0, 1, 2", Tables.code(d, 0, 0), "3 137 4");
        });
        doc.hold("rows with equal cells keep their order.", () -> {
            ColumnTable t = Tables.of(2, 3, 3);
            long[][] rows = {{2, 1}, {1, 2}, {2, 2}, {1, 1}, {2, 1}};
            for (long[] row : rows) {
                t.setLong(0, row[0]);
                t.setLong(1, row[1]);
                t.addRows(1);
            }
            t.setNull(0);
            t.addRows(2);
            t.recluster(0);
            t.selectAll();
            Check.due("by the first column", Tables.selection(t), "5 6 1 3 0 2 4");
            t.recluster(1);
            t.selectAll();
            Check.due("then by the second", Tables.selection(t), "5 6 3 0 4 1 2");
        });
        doc.hold("Returns the number of segments afterwards.", () -> {
            Check.due("no rows", Tables.of(4, 3).recluster(0), 0);
            Check.due("all rows deleted", without(Tables.rising(4, 9), "a >= 0").recluster(0), 0);
            Check.due("4 rows left", without(Tables.rising(4, 9), "a > 3").recluster(0), 1);
            Check.due("5 rows left", without(Tables.rising(4, 9), "a > 4").recluster(0), 2);
            Check.due("300 rows of 2 each", Tables.rising(2, 300).recluster(0), 150);
        });
        doc.hold("Throws `IndexOutOfBoundsException` if there is no such column", () -> {
            for (int column : new int[] {-1, 1, 8, Integer.MIN_VALUE, Integer.MAX_VALUE}) {
                Tables.refused("column " + column, INDEX, () -> without(Tables.rising(4, 7), "a = 1"), t -> t.recluster(column));
            }
            Tables.refused("no columns", INDEX, ColumnTable::new, t -> t.recluster(0));
        });
    }

    private static void segmentCountAndOf(Sentences doc) {
        doc.at("promise 23");
        doc.hold("Returns the number of segments.", () -> {
            ColumnTable t = Tables.of(3, 3);
            int[] want = {0, 1, 1, 1, 2, 2, 2, 3};
            for (int i = 0; i < 8; i++) {
                Check.due(i + " rows", t.segmentCount(), want[i]);
                t.addRows(1);
            }
            t.seal();
            Check.due("a sealed one counts once", t.segmentCount(), 3);
            t.selectAll();
            t.delete();
            Check.due("deleted rows' segments count", t.segmentCount(), 3);
        });
        doc.at("promise 24");
        doc.hold("Returns the segment in which it is stored.", () -> {
            ColumnTable t = Tables.rising(3, 7);
            for (int row = 0; row < 7; row++) {
                Check.due("row " + row, t.segmentOf(row), row / 3);
            }
            Tables.drop(t, "a in 1 .. 2");
            t.compact();
            Check.due("after compacting", t.segmentOf(0) + " " + t.segmentOf(4) + " " + t.segmentOf(5), "0 0 1");
        });
        doc.hold("Throws `IndexOutOfBoundsException` if no row with this number was added", () -> {
            for (int row : new int[] {-1, 7, 299, 300, Integer.MIN_VALUE, Integer.MAX_VALUE}) {
                Tables.refused("row " + row, INDEX, () -> Tables.rising(3, 7), t -> t.segmentOf(row));
            }
            Tables.refused("row 0 of none", INDEX, ColumnTable::new, t -> t.segmentOf(0));
        });
        doc.hold("Throws `NoSuchElementException` if the row is deleted", () -> {
            Tables.refused("in its segment", ELEMENT, () -> without(Tables.rising(3, 7), "a = 1"), t -> t.segmentOf(1));
            Tables.refused("in the open segment", ELEMENT, () -> without(Tables.rising(3, 7), "a = 6"), t -> t.segmentOf(6));
            Tables.refused("compacted", ELEMENT, () -> {
                ColumnTable t = without(Tables.rising(3, 7), "a = 1");
                t.compact();
                return t;
            }, t -> t.segmentOf(1));
        });
    }

    private static void noSegment(Sentences doc, BiConsumer<ColumnTable, Integer> call) {
        doc.hold(NO_SEGMENT, () -> {
            for (int segment : new int[] {-1, 3, 300, 301, Integer.MIN_VALUE, Integer.MAX_VALUE}) {
                Tables.refused("segment " + segment, INDEX, () -> Tables.rising(3, 7), t -> call.accept(t, segment));
            }
            Tables.refused("segment 0 of none", INDEX, ColumnTable::new, t -> call.accept(t, 0));
            Tables.refused("a segment that compacting took away", INDEX, () -> {
                ColumnTable t = without(Tables.rising(3, 7), "a = 1");
                t.compact();
                return t;
            }, t -> call.accept(t, 2));
        });
    }

    private static void rowsAndLive(Sentences doc) {
        doc.at("promise 25");
        doc.hold("Returns the number of its rows, including deleted ones.", () -> {
            ColumnTable t = without(Tables.rising(3, 7), "a in 1 .. 2 or a = 6");
            Check.due("sealed", t.segmentRows(0) + " " + t.segmentRows(1), "3 3");
            Check.due("open", t.segmentRows(2), 1);
            Check.due("64", Tables.rising(64, 64).segmentRows(0), 64);
        });
        noSegment(doc, ColumnTable::segmentRows);
        doc.at("promise 26");
        doc.hold("Returns the number of its rows that are not deleted.", () -> {
            ColumnTable t = without(Tables.rising(3, 7), "a in 1 .. 2 or a = 6");
            Check.due("sealed", t.segmentLive(0) + " " + t.segmentLive(1), "1 3");
            Check.due("open, none left", t.segmentLive(2), 0);
            ColumnTable full = Tables.rising(64, 64);
            Check.due("64", full.segmentLive(0), 64);
            Tables.drop(full, "a = 63");
            Check.due("63", full.segmentLive(0), 63);
        });
        noSegment(doc, ColumnTable::segmentLive);
    }

    private static void isOpen(Sentences doc) {
        doc.at("promise 27");
        doc.hold("Returns whether it is open.", () -> {
            ColumnTable t = Tables.rising(3, 5);
            Check.due("sealed and open", t.isOpen(0) + " " + t.isOpen(1), "false true");
            t.addRows(1);
            Check.due("full", t.isOpen(1), false);
            t.addRows(1);
            t.seal();
            Check.due("sealed", t.isOpen(2), false);
            t.compact();
            Check.due("compacted", t.isOpen(0) + " " + t.isOpen(2), "false true");
        });
        noSegment(doc, ColumnTable::isOpen);
    }

    /** Segments of 4 rows of a LONG a and a DOUBLE b, the third one open; b is null in the second one. */
    private static ColumnTable parts() {
        ColumnTable t = Tables.of(4, 3, 5);
        t.setLong(0, 7);
        t.setStep(0, 2);
        t.setDouble(1, 0.5);
        t.addRows(4);
        t.setNull(1);
        t.addRows(6);
        return t;
    }

    private static void partThrows(Sentences doc, BiConsumer<ColumnTable, int[]> call) {
        doc.hold(NO_PART, () -> {
            for (int number : new int[] {-1, 3, 8, 300, Integer.MIN_VALUE, Integer.MAX_VALUE}) {
                Tables.refused("segment " + number, INDEX, Promises20To33Test::parts, t -> call.accept(t, new int[] {number, 0}));
                Tables.refused("column " + number, INDEX, Promises20To33Test::parts, t -> call.accept(t, new int[] {0, number}));
                Tables.refused("column " + number + " of an open segment", INDEX, Promises20To33Test::parts,
                        t -> call.accept(t, new int[] {2, number}));
            }
            Tables.refused("column 2", INDEX, Promises20To33Test::parts, t -> call.accept(t, new int[] {0, 2}));
            Tables.refused("no segment", INDEX, () -> Tables.of(4, 3), t -> call.accept(t, new int[] {0, 0}));
        });
        doc.hold(OPEN, () -> {
            Tables.refused("open", STATE, Promises20To33Test::parts, t -> call.accept(t, new int[] {2, 0}));
            Tables.refused("open, and all null", STATE, Promises20To33Test::parts, t -> call.accept(t, new int[] {2, 1}));
            ColumnTable t = parts();
            t.seal();
            Check.due("not when it is sealed", Check.outcome(() -> {
                call.accept(t, new int[] {2, 0});
                return "fine";
            }), "fine");
        });
    }

    private static void encoding(Sentences doc) {
        doc.at("promise 28");
        doc.hold("Returns the encoding of the column in this segment, 0 to 3.", () -> {
            ColumnTable t = parts();
            Check.due("delta", t.encoding(0, 0), 3);
            Check.due("dictionary", t.encoding(0, 1) + " " + t.encoding(1, 1), "2 2");
            Check.due("plain", Tables.doubles(3, 5, 1, 2, 3).encoding(0, 0), 0);
            Check.due("runs", Tables.longs(6, 1, 5, 5, 5, 9, 9, 9).encoding(0, 0), 1);
        });
        partThrows(doc, (t, at) -> t.encoding(at[0], at[1]));
    }

    private static void bits(Sentences doc) {
        doc.at("promise 29");
        doc.hold("Returns the number of bits of the column in this segment.", () -> {
            ColumnTable t = parts();
            Check.due("delta", t.bits(0, 0), 128L);
            Check.due("dictionary", t.bits(0, 1), 64L);
            Check.due("nulls", t.bits(1, 1), 0L);
            Check.due("plain", Tables.doubles(3, 4, 1, 2, 3).bits(0, 0), 96L);
            Check.due("runs", Tables.longs(6, 1, 5, 5, 5, 9, 9, 9).bits(0, 0), 38L);
        });
        partThrows(doc, (t, at) -> t.bits(at[0], at[1]));
    }

    private static void units(Sentences doc) {
        doc.at("promise 30");
        doc.hold("Returns the number of units of the column in this segment.", () -> {
            ColumnTable t = parts();
            Check.due("delta: rows", t.units(0, 0), 4);
            Check.due("dictionary: values", t.units(0, 1), 1);
            Check.due("nulls: no value", t.units(1, 1), 0);
            Check.due("plain: rows", Tables.doubles(3, 4, 1, 2, 3).units(0, 0), 3);
            Check.due("runs", Tables.longs(6, 1, 5, 5, 5, 9, 9, 9).units(0, 0), 2);
        });
        partThrows(doc, (t, at) -> t.units(at[0], at[1]));
    }

    private static void totalBits(Sentences doc) {
        doc.at("promise 31");
        doc.hold("Returns the sum of the bits of all columns in all sealed segments.", () -> {
            Check.due("no columns", new ColumnTable().totalBits(), 0L);
            Check.due("no sealed segment", Tables.rising(4, 3).totalBits(), 0L);
            ColumnTable t = parts();
            Check.due("two columns, two sealed segments", t.totalBits(), 128L + 64 + 128 + 0);
            t.seal();
            Check.due("and a third one", t.totalBits(), 320L + 128);
            Tables.drop(t, "b = 0.5");
            Check.due("deleted rows count", t.totalBits(), 448L);
            t.compact();
            // Rows 4 to 9: 7 9 11 13, then 15 17 in an open segment.
            Check.due("until the table is compacted", t.totalBits(), 128L);
        });
    }

    private static void zoneThrows(Sentences doc, BiConsumer<ColumnTable, int[]> call) {
        partThrows(doc, call);
        doc.hold(ALL_NULL, () -> {
            Tables.refused("all null", ELEMENT, Promises20To33Test::parts, t -> call.accept(t, new int[] {1, 1}));
            Tables.refused("all null by an update", ELEMENT, () -> {
                ColumnTable t = parts();
                Check.select(t, "a >= 0");
                t.setNull(0);
                t.update(0);
                return t;
            }, t -> call.accept(t, new int[] {0, 0}));
            for (int type = 0; type < 6; type++) {
                int of = type;
                Tables.refused("type " + type, ELEMENT, () -> {
                    ColumnTable t = Tables.of(2, of);
                    t.addRows(2);
                    return t;
                }, t -> call.accept(t, new int[] {0, 0}));
            }
            ColumnTable one = Tables.longs(2, 3, 5);
            Tables.addNulls(one, 1);
            Check.due("one value is enough", Check.outcome(() -> {
                call.accept(one, new int[] {0, 0});
                return "fine";
            }), "fine");
        });
    }

    private static void zoneLow(Sentences doc) {
        doc.at("promise 32");
        doc.hold("Returns the least value of the column in this segment, converted to a double.", () -> {
            ColumnTable t = parts();
            Check.due("LONG", t.zoneLow(0, 0) + " " + t.zoneLow(1, 0), "7.0 7.0");
            Check.due("DOUBLE", t.zoneLow(0, 1), 0.5);
            Check.due("-0", Tables.doubles(2, 5, 0.0, -0.0).zoneLow(0, 0), -0.0);
            Check.due("false", Tables.longs(2, 0, 1, 0).zoneLow(0, 0), 0.0);
            Check.due("the nearest double", Tables.longs(2, 3, (1L << 53) + 1, Long.MAX_VALUE).zoneLow(0, 0), 9007199254740992.0);
            Check.due("FLOAT", Tables.doubles(2, 4, 0.1, 5).zoneLow(0, 0), (double) 0.1f);
        });
        zoneThrows(doc, (t, at) -> t.zoneLow(at[0], at[1]));
    }

    private static void zoneHigh(Sentences doc) {
        doc.at("promise 33");
        doc.hold("Returns the greatest value of the column in this segment, converted to a double.", () -> {
            ColumnTable t = parts();
            Check.due("LONG", t.zoneHigh(0, 0) + " " + t.zoneHigh(1, 0), "13.0 13.0");
            Check.due("DOUBLE", t.zoneHigh(0, 1), 0.5);
            Check.due("0", Tables.doubles(2, 5, 0.0, -0.0).zoneHigh(0, 0), 0.0);
            Check.due("true", Tables.longs(2, 0, 1, 0).zoneHigh(0, 0), 1.0);
            Check.due("the nearest double", Tables.longs(2, 3, 0, Long.MAX_VALUE).zoneHigh(0, 0), 9223372036854775808.0);
            Check.due("CHAR", Tables.longs(2, 2, 65535, 0).zoneHigh(0, 0), 65535.0);
        });
        zoneThrows(doc, (t, at) -> t.zoneHigh(at[0], at[1]));
    }
}
