import java.util.NoSuchElementException;

/** Section 3 of the document, sentence by sentence: segments, encodings and zones. */
public final class Section3Test {
    private static final int BOOLEAN = 0;
    private static final int SHORT = 1;
    private static final int CHAR = 2;
    private static final int LONG = 3;
    private static final int FLOAT = 4;
    private static final int DOUBLE = 5;
    private static final int[] WIDTHS = {1, 16, 16, 64, 32, 64};

    public static void main(String[] args) throws Exception {
        Sentences doc = new Sentences("section", 3, 3);
        doc.at("section 3");
        segments(doc);
        openSegment(doc);
        deletedRows(doc);
        whenEncoded(doc);
        measures(doc);
        plain(doc);
        runs(doc);
        dictionary(doc);
        delta(doc);
        deltaBounds(doc);
        rising(doc);
        ties(doc);
        zones(doc);
        doc.end();
    }

    private static void codeDue(String what, ColumnTable t, String want) {
        Check.due(what, Tables.sealedCode(t), want);
    }

    private static ColumnTable longs(long... values) {
        return Tables.longs(64, LONG, values);
    }

    private static ColumnTable shorts(long... values) {
        return Tables.longs(64, SHORT, values);
    }

    private static void segments(Sentences doc) {
        doc.hold("The rows are stored in segments, which are numbered from 0; the rows in the segments, in order, form the"
                + " storage order.", () -> {
            ColumnTable t = Tables.rising(2, 5);
            Check.due("segments", t.segmentCount(), 3);
            Check.due("the first and the last one", t.segmentOf(0) + " " + t.segmentOf(4), "0 2");
            t.selectAll();
            Check.due("storage order", Tables.selection(t), "0 1 2 3 4");
            t.setLong(0, -1);
            t.setStep(0, 0);
            t.addRows(1);
            t.recluster(0);
            t.selectAll();
            Check.due("and then", Tables.selection(t), "5 0 1 2 3 4");
            Check.due("the first row's segment", t.segmentOf(5), 0);
        });
        doc.hold("The segment size S is 16 at first.", () -> {
            ColumnTable t = new ColumnTable();
            Check.column(t, "a", LONG);
            t.addRows(15);
            Check.due("15 rows", t.segmentCount() + " " + t.isOpen(0), "1 true");
            t.addRows(1);
            Check.due("16 rows", t.segmentCount() + " " + t.isOpen(0), "1 false");
            t.addRows(1);
            Check.due("17 rows", t.segmentCount() + " " + t.isOpen(1), "2 true");
            Check.due("as it says", new ColumnTable().setSegmentSize(16), 16);
        });
    }

    private static void openSegment(Sentences doc) {
        doc.hold("At most one segment, the last one, is open; all others are sealed.", () -> {
            ColumnTable t = Tables.of(3, LONG);
            for (int added = 1; added <= 10; added++) {
                t.addRows(1);
                for (int s = 0; s < t.segmentCount(); s++) {
                    boolean isLast = s == t.segmentCount() - 1;
                    Check.due("segment " + s + " of " + added + " rows", t.isOpen(s), isLast && added % 3 != 0);
                }
            }
            t.seal();
            t.addRows(1);
            Check.due("behind one that was sealed", t.isOpen(3) + " " + t.isOpen(4), "false true");
        });
        doc.hold("A new row is appended to the open segment; if there is none, a new open segment is created for it.", () -> {
            ColumnTable t = Tables.of(3, LONG);
            Check.due("no rows, no segment", t.segmentCount(), 0);
            t.addRows(1);
            Check.due("the first row", t.segmentOf(0) + " " + t.isOpen(0), "0 true");
            t.addRows(1);
            Check.due("appended", t.segmentOf(1) + " " + t.segmentRows(0), "0 2");
            t.seal();
            t.addRows(1);
            Check.due("behind a sealed one, though it has fewer than S rows", t.segmentOf(2) + " " + t.segmentRows(0), "1 2");
            t.addRows(5);
            Check.due("over two segments", t.segmentOf(4) + " " + t.segmentOf(5) + " " + t.segmentCount(), "1 2 3");
            Check.due("no open one behind the last full one", t.isOpen(2), false);
            t.addRows(1);
            Check.due("a new one then", t.segmentOf(8) + " " + t.isOpen(3), "3 true");
        });
        doc.hold("When the open segment has S rows, it is sealed.", () -> {
            for (int size : new int[] {2, 3, 63, 64}) {
                ColumnTable t = Tables.of(size, LONG);
                t.addRows(size - 1);
                Check.due("S - 1 rows", t.isOpen(0), true);
                t.addRows(1);
                Check.due("S rows", t.isOpen(0) + " " + t.segmentRows(0), "false " + size);
            }
            ColumnTable d = Tables.rising(3, 2);
            d.selectAll();
            d.delete();
            Check.due("two deleted rows", d.isOpen(0) + " " + d.segmentLive(0), "true 0");
            d.addRows(1);
            Check.due("deleted rows count", d.isOpen(0) + " " + d.segmentRows(0) + " " + d.segmentLive(0), "false 3 1");
        });
    }

    private static void deletedRows(Sentences doc) {
        doc.hold("A deleted row stays in its segment until the table is compacted or reclustered;", () -> {
            ColumnTable t = Tables.rising(4, 6);
            Tables.drop(t, "a in 2 .. 4");
            Check.due("rows", t.segmentRows(0) + " " + t.segmentRows(1), "4 2");
            t.seal();
            Check.due("sealed, too", t.segmentRows(1) + " " + t.segmentLive(1), "2 1");
            t.compact();
            Check.due("compacted", t.segmentCount() + " " + t.segmentRows(0), "1 3");
            Tables.drop(t, "a = 0");
            Check.due("until", t.segmentRows(0), 3);
            t.recluster(0);
            Check.due("reclustered", t.segmentRows(0), 2);
            Tables.drop(t, "a >= 0");
            Check.due("all deleted", t.segmentCount() + " " + t.segmentRows(0) + " " + t.segmentLive(0), "1 2 0");
            t.compact();
            Check.due("and gone", t.segmentCount(), 0);
        });
        doc.hold("it counts as a row of the segment, with its cells, in this section and in section 5, unless rows \"that are"
                + " not deleted\" are mentioned.", () -> {
            ColumnTable t = Tables.longs(16, LONG, 1L << 40, 5, 1L << 40, 5);
            Tables.drop(t, "a = 5");
            codeDue("rows deleted before the seal have their cells", t, "2 132 2");
            Check.due("in the zone, too", t.zoneLow(0, 0), 5.0);
            Check.due("in comparisons", Check.picked(t, "a > 5"), "0 2 / 2");
            Check.due("of names", Check.picked(t, "a = a"), "0 2 / 4");
            ColumnTable u = Tables.longs(16, LONG, 4, 5);
            Tables.addNulls(u, 1);
            Tables.drop(u, "a is null");
            Check.due("a deleted null cell gives u = 1", Tables.sealedCode(u), "2 134 2");
        });
    }

    private static void whenEncoded(Sentences doc) {
        doc.hold("When a segment is sealed, each of its columns is encoded.", () -> {
            ColumnTable t = Tables.of(3, BOOLEAN, SHORT, CHAR, LONG, FLOAT, DOUBLE);
            for (int c = 0; c < 6; c++) {
                t.setLong(c, 1);
            }
            t.addRows(4);
            for (int c = 0; c < 6; c++) {
                int column = c;
                Check.due("column " + c, Tables.code(t, 0, c), "2 " + WIDTHS[c] + " 1");
                Check.dueThrow("not while it is open", IllegalStateException.class, () -> t.encoding(1, column));
            }
            t.seal();
            for (int c = 0; c < 6; c++) {
                Check.due("sealed by seal", Tables.code(t, 1, c), "0 " + WIDTHS[c] + " 1");
            }
        });
        doc.hold("When a cell in a sealed segment is changed, this column of the segment is encoded anew.", () -> {
            ColumnTable t = Tables.of(4, LONG, DOUBLE);
            t.setLong(0, 1);
            t.setStep(0, 5);
            t.setDouble(1, 2);
            t.addRows(8);
            Check.due("before", Tables.code(t, 0, 0) + ", " + Tables.code(t, 0, 1), "3 128 4, 2 64 1");
            Check.select(t, "a in 6 .. 11");
            t.setNull(0);
            t.update(0);
            // 1 null null 16: 3 runs of 64 + 1 + 3 bits, 2 values of 64 and indices of 2 bits.
            Check.due("by update", Tables.code(t, 0, 0), "2 136 2");
            Check.due("not the other column", Tables.code(t, 0, 1), "2 64 1");
            Check.due("not the other segment", Tables.code(t, 1, 0), "3 128 4");
            t.multiply(1, 1.5);
            Check.due("by multiply", Tables.code(t, 0, 1), "2 132 2");
            Check.due("its zone", t.zoneLow(0, 1) + " " + t.zoneHigh(0, 1), "2.0 3.0");
            t.multiply(1, 2.0 / 3.0);
            Check.due("and back", Tables.code(t, 0, 1), "2 64 1");
        });
    }

    private static void measures(Sentences doc) {
        doc.hold("Let n be the number of rows of the segment,", () -> {
            codeDue("one row", longs(7), "0 64 1");
            codeDue("two rows", longs(7, 8), "0 128 2");
            ColumnTable t = Tables.doubles(64, DOUBLE, 1, 2, 3, 4, 5);
            Tables.drop(t, "a > 1");
            codeDue("not only of those that are not deleted", t, "0 320 5");
        });
        doc.hold("w the width of the type in bits,", () -> {
            for (int type = BOOLEAN; type <= DOUBLE; type++) {
                codeDue("type " + type, Tables.longs(2, type, 0, 1), "0 " + 2 * WIDTHS[type] + " 2");
            }
        });
        doc.hold("u = 1 if at least one cell of the column is null, otherwise u = 0,", () -> {
            ColumnTable t = Tables.doubles(64, DOUBLE, 1, 2, 3);
            codeDue("no null", t, "0 192 3");
            ColumnTable one = Tables.longs(64, BOOLEAN, 1, 0, 1);
            Tables.addNulls(one, 1);
            // Plain 4 * 2, runs 4 * (1 + 1 + 3), dictionary 2 + 4 * 2.
            codeDue("one null", one, "0 8 4");
            ColumnTable two = Tables.longs(64, BOOLEAN, 1, 0, 1);
            Tables.addNulls(two, 2);
            codeDue("two nulls", two, "0 10 5");
        });
        doc.hold("and len(k) the number of binary digits of k, with len(0) = 0.", () -> {
            int[][] pairs = {{1, 1}, {2, 2}, {3, 2}, {4, 3}, {7, 3}, {8, 4}, {255, 8}, {256, 9}, {32767, 15}};
            for (int[] pair : pairs) {
                // Four differences 0, 0, 0, k: a delta column of 128 + 4 * len(k) bits.
                ColumnTable t = longs(10, 11, 12, 13, 14 + pair[0]);
                codeDue("len(" + pair[0] + ")", t, "3 " + (128 + 4 * pair[1]) + " 5");
            }
            codeDue("len(0) of differences", longs(10, 11, 12, 13, 14), "3 128 5");
            codeDue("len(0) of a dictionary of one value", longs(10, 10, 10, 10, 10), "2 64 1");
        });
    }

    private static void plain(Sentences doc) {
        doc.hold("0 PLAIN: n * (w + u) bits; n units.", () -> {
            codeDue("three doubles", Tables.doubles(64, DOUBLE, 1, 2, 3), "0 192 3");
            codeDue("three floats", Tables.doubles(64, FLOAT, 1, 2, 3), "0 96 3");
            codeDue("shorts", shorts(0, 32767, -32768, 5), "0 64 4");
            codeDue("chars", Tables.longs(64, CHAR, 0, 65535, 1, 65534), "0 64 4");
            codeDue("booleans", Tables.longs(64, BOOLEAN, 0, 1, 0), "0 3 3");
            ColumnTable t = Tables.longs(64, BOOLEAN, 1, 0);
            Tables.addNulls(t, 1);
            // Dictionary: 2 + 3 * 2.
            codeDue("with a null", t, "0 6 3");
            ColumnTable full = Tables.of(64, DOUBLE);
            full.setDouble(0, 1);
            full.setStep(0, 1);
            full.addRows(64);
            Check.due("64 rows", Tables.code(full, 0, 0), "0 4096 64");
        });
    }

    private static ColumnTable twoRuns(int type, int first, int second) {
        ColumnTable t = Tables.of(64, type);
        t.setLong(0, 0);
        t.addRows(first);
        t.setLong(0, 1);
        t.addRows(second);
        return t;
    }

    private static void runs(Sentences doc) {
        doc.hold("1 RUNS: let r be the number of runs; a run is a sequence of consecutive rows, as long as possible, whose cells"
                + " are all null or all contain the same value.", () -> {
            ColumnTable t = twoRuns(SHORT, 20, 20);
            t.setLong(0, 0);
            t.addRows(20);
            codeDue("the same value again is a run of its own", t, "1 66 3");
            ColumnTable n = twoRuns(SHORT, 20, 20);
            Tables.addNulls(n, 20);
            codeDue("nulls are a run", n, "1 69 3");
            ColumnTable z = Tables.of(64, FLOAT);
            z.setDouble(0, 0.0);
            z.addRows(30);
            z.setDouble(0, -0.0);
            z.addRows(30);
            codeDue("0 and -0 are two runs", z, "1 76 2");
            ColumnTable d = twoRuns(SHORT, 20, 20);
            Tables.drop(d, "a = 1");
            d.setLong(0, 0);
            d.addRows(20);
            codeDue("over deleted rows", d, "1 66 3");
            ColumnTable alone = twoRuns(BOOLEAN, 1, 63);
            codeDue("a run of one row", alone, "1 16 2");
        });
        doc.hold("r * (w + u + len(n)) bits; r units.", () -> {
            codeDue("n = 63", twoRuns(SHORT, 31, 32), "1 44 2");
            codeDue("n = 64", twoRuns(SHORT, 32, 32), "1 46 2");
            codeDue("booleans", twoRuns(BOOLEAN, 40, 24), "1 16 2");
            codeDue("doubles", twoRuns(DOUBLE, 40, 24), "1 142 2");
            ColumnTable t = twoRuns(BOOLEAN, 20, 20);
            Tables.addNulls(t, 24);
            codeDue("with nulls", t, "1 27 3");
        });
    }

    private static void dictionary(Sentences doc) {
        doc.hold("2 DICTIONARY: let d be the number of different values in the column.", () -> {
            codeDue("one", longs(5, 5, 5), "2 64 1");
            codeDue("two", longs(5, 1L << 40, 5, 1L << 40), "2 132 2");
            ColumnTable n = Tables.longs(64, LONG, 5, 1L << 40, 5);
            Tables.addNulls(n, 1);
            codeDue("null is none of them", n, "2 136 2");
            ColumnTable nulls = Tables.of(64, LONG);
            nulls.addRows(5);
            codeDue("none", nulls, "2 0 0");
            codeDue("0 and -0", Tables.doubles(64, DOUBLE, 0.0, -0.0, 0.0, -0.0), "2 132 2");
            ColumnTable deleted = Tables.doubles(64, DOUBLE, 1, 2, 1, 2);
            Tables.drop(deleted, "a = 2");
            codeDue("those of deleted rows, too", deleted, "2 132 2");
        });
        doc.hold("d * w + n * len(d + u - 1) bits; d units.", () -> {
            double[] four = {1, 2, 3, 4, 1, 3, 2, 4};
            codeDue("d = 4: indices of 2 bits", Tables.doubles(64, DOUBLE, four), "2 272 4");
            ColumnTable withNull = Tables.doubles(64, DOUBLE, four);
            Tables.addNulls(withNull, 1);
            codeDue("d = 4 and nulls: 3 bits", withNull, "2 283 4");
            codeDue("d = 5: 3 bits", Tables.doubles(64, DOUBLE, 1, 2, 3, 4, 5, 1, 3, 2, 4), "2 347 5");
            ColumnTable oneAndNull = Tables.doubles(64, DOUBLE, 1);
            Tables.addNulls(oneAndNull, 1);
            // Plain 2 * 65, runs 2 * (64 + 1 + 2).
            codeDue("d = 1 and nulls: 1 bit", oneAndNull, "2 66 1");
            ColumnTable oneNull = Tables.of(64, BOOLEAN);
            oneNull.addRows(1);
            codeDue("a null alone: no bits", oneNull, "2 0 0");
        });
    }

    private static void delta(Sentences doc) {
        doc.hold("3 DELTA: only for an integer type, without null cells, and with n >= 2.", () -> {
            codeDue("SHORT", shorts(1, 2, 3), "3 32 3");
            codeDue("CHAR", Tables.longs(64, CHAR, 1, 2, 3), "3 32 3");
            codeDue("LONG", longs(1, 2, 3), "3 128 3");
            codeDue("FLOAT", Tables.doubles(64, FLOAT, 1, 2, 3), "0 96 3");
            codeDue("DOUBLE", Tables.doubles(64, DOUBLE, 1, 2, 3), "0 192 3");
            ColumnTable n = longs(1, 2, 3, 4);
            Tables.addNulls(n, 1);
            codeDue("with a null", n, "2 271 4");
            ColumnTable deletedNull = longs(1, 2, 3, 4);
            Tables.addNulls(deletedNull, 1);
            Tables.drop(deletedNull, "a is null");
            codeDue("with a deleted null", deletedNull, "2 271 4");
            codeDue("n = 1", longs(1), "0 64 1");
            codeDue("n = 2: as many bits as plain", longs(1, 2), "0 128 2");
        });
        doc.hold("Let the differences be each value minus the one in the row before, as mathematical integers, m the smallest and"
                + " M the greatest of them.", () -> {
            codeDue("differences 1, 5, 2", longs(10, 11, 16, 18), "3 137 4");
            codeDue("differences -5, -1, -2", longs(18, 13, 12, 10), "3 137 4");
            codeDue("differences -1, 1, 0", longs(10, 9, 10, 10), "2 132 2");
            codeDue("-1, 2, 1", longs(10, 9, 11, 12), "3 134 4");
            ColumnTable t = Tables.rising(4, 3);
            t.setLong(0, 100);
            t.addRows(1);
            Tables.drop(t, "a = 1");
            Check.due("of deleted rows, too: 1, 1, 98", Tables.code(t, 0, 0), "3 149 4");
        });
        doc.hold("2 * w + (n - 1) * len(M - m) bits; n units.", () -> {
            codeDue("SHORT, M - m = 0", shorts(5, 7, 9, 11), "3 32 4");
            codeDue("SHORT, M - m = 1", shorts(5, 7, 9, 12), "3 35 4");
            codeDue("LONG, M - m = 2", longs(5, 7, 9, 13), "3 134 4");
            ColumnTable t = Tables.rising(64, 64);
            Check.due("64 rows", Tables.code(t, 0, 0), "3 128 64");
        });
    }

    /** Rows 0, 1 .. at an even place, at an odd one these numbers plus so much: all are different. */
    private static ColumnTable alternating(int rows, long plus) {
        ColumnTable t = Tables.of(64, LONG);
        for (int i = 0; i < rows; i++) {
            t.setLong(0, i % 2 == 0 ? i : i + plus);
            t.addRows(1);
        }
        return t;
    }

    private static void deltaBounds(Sentences doc) {
        doc.hold("DELTA is possible only if all differences are in the range of long and M - m is less than 2^63.", () -> {
            long least = Long.MIN_VALUE;
            long greatest = Long.MAX_VALUE;
            codeDue("two differences of 2^63 - 1", longs(least, -1, greatest - 1), "3 128 3");
            codeDue("a difference of 2^63", longs(least, 0, 1), "0 192 3");
            codeDue("2^63 and -2^63, which look alike in 64 bits", longs(least, 0, least), "2 131 2");
            codeDue("-2^63 and -2^63 + 1", longs(greatest, -1, least), "3 130 3");
            codeDue("-2^63 - 1 and 2^63 - 1, which look alike", longs(greatest, -2, greatest - 2), "0 192 3");
            codeDue("2^64 - 1 and -1, which look alike", longs(least, greatest, greatest - 1), "0 192 3");
            codeDue("-2^64 + 1 and 1", longs(greatest, least, least + 1), "0 192 3");
            codeDue("2^62 and -2^62 make M - m = 2^63", alternating(64, (1L << 62) - 1), "0 4096 64");
            codeDue("M - m = 2^64 - 2", alternating(64, greatest - 64), "0 4096 64");
            // The widest differences that pay: 62 bits each, from 34 rows on.
            codeDue("M - m = 2^62 - 2, 34 rows", alternating(34, (1L << 61) - 1), "3 2174 34");
            codeDue("33 rows: as many bits as plain", alternating(33, (1L << 61) - 1), "0 2112 33");
            codeDue("M - m = 2^62: 63 bits each", alternating(64, 1L << 61), "0 4096 64");
        });
    }

    private static void rising(Sentences doc) {
        doc.hold("A DELTA column is rising if m >= 0.", () -> {
            ColumnTable zero = shorts(3, 3, 4, 4, 5, 5, 6, 6);
            codeDue("m = 0", zero, "3 39 8");
            Check.due("is searched: rows 4, 2, 1", Check.picked(zero, "a <= 3"), "0 1 / 3");
            ColumnTable falling = shorts(3, 4, 5, 5, 4, 5, 6, 6);
            codeDue("m = -1", falling, "3 46 8");
            Check.due("is not searched", Check.picked(falling, "a <= 3"), "0 / 8");
            ColumnTable plain = Tables.longs(2, LONG, 1, 9);
            Check.due("two rising values, but a plain column", Check.picked(plain, "a <= 3"), "0 / 2");
        });
    }

    private static ColumnTable withDifferentFloats(int different) {
        ColumnTable t = Tables.of(32, FLOAT);
        for (int i = 0; i < 32; i++) {
            t.setLong(0, i % different);
            t.addRows(1);
        }
        return t;
    }

    private static void ties(Sentences doc) {
        doc.hold("The encoding with the fewest bits is used; of several, the one with the smallest number.", () -> {
            codeDue("plain and runs with 10 bits", twoRuns(BOOLEAN, 5, 5), "0 10 10");
            codeDue("runs with 10, plain with 11 bits", twoRuns(BOOLEAN, 5, 6), "1 10 2");
            codeDue("plain and a dictionary with 1024 bits", withDifferentFloats(27), "0 1024 32");
            codeDue("a dictionary with 992 bits", withDifferentFloats(26), "2 992 26");
            codeDue("plain and delta with 32 bits", shorts(4, 5), "0 32 2");
            codeDue("delta with 32, plain with 48 bits", shorts(4, 5, 6), "3 32 3");
            codeDue("runs and a dictionary with 38 bits", shorts(5, 5, 5, 9, 9, 9), "1 38 2");
            codeDue("a dictionary with 37, runs with 38 bits", shorts(5, 5, 5, 9, 9), "2 37 2");
            codeDue("runs and delta with 38 bits", shorts(5, 5, 5, 6, 6, 6, 6), "1 38 2");
            codeDue("delta with 37, runs with 38 bits", shorts(5, 5, 5, 6, 6, 6), "3 37 6");
            codeDue("a dictionary and delta with 56 bits", shorts(0, 0, 100, 50), "2 56 3");
            codeDue("delta with 50 bits", shorts(0, 0, 50, 40), "3 50 4");
            codeDue("one row: all but delta", longs(7), "0 64 1");
        });
    }

    private static void zones(Sentences doc) {
        doc.hold("The zone of a column in a sealed segment consists of its least and its greatest value;", () -> {
            ColumnTable t = Tables.longs(3, LONG, 5, -7, 2);
            Check.due("least and greatest", t.zoneLow(0, 0) + " " + t.zoneHigh(0, 0), "-7.0 5.0");
            ColumnTable one = Tables.doubles(16, DOUBLE, 2.5);
            one.seal();
            Check.due("one value", one.zoneLow(0, 0) + " " + one.zoneHigh(0, 0), "2.5 2.5");
            ColumnTable n = Tables.doubles(3, DOUBLE, 4, -4);
            Tables.addNulls(n, 1);
            Check.due("null is no value", n.zoneLow(0, 0) + " " + n.zoneHigh(0, 0), "-4.0 4.0");
            Tables.drop(n, "a = -4");
            Check.due("a deleted row counts", n.zoneLow(0, 0), -4.0);
            Check.due("booleans", Tables.longs(2, BOOLEAN, 1, 1).zoneLow(0, 0), 1.0);
        });
        doc.hold("there is no zone if all cells are null.", () -> {
            ColumnTable t = Tables.of(2, LONG);
            t.addRows(2);
            Check.dueThrow("low", NoSuchElementException.class, () -> t.zoneLow(0, 0));
            Check.dueThrow("high", NoSuchElementException.class, () -> t.zoneHigh(0, 0));
            Check.due("no comparisons", Check.picked(t, "a > 0 or not a > 0"), "/ 0");
            t.selectAll();
            t.setLong(0, 3);
            t.update(0);
            Check.due("there is one when they are changed", t.zoneLow(0, 0), 3.0);
        });
    }
}
