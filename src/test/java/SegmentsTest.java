import java.util.NoSuchElementException;

/** Promises 20 to 33: segments, their encodings and zones. */
public final class SegmentsTest {
    public static void main(String[] args) {
        seal();
        compact();
        recluster();
        segmentReaders();
        plainAndRuns();
        dictionary();
        delta();
        encodedAnew();
        encodingErrors();
        totalBits();
        zones();
        Check.end();
    }

    private static ColumnTable table(int type, int size) {
        ColumnTable t = new ColumnTable();
        Check.column(t, "a", type);
        t.setSegmentSize(size);
        return t;
    }

    private static ColumnTable withLongs(int type, long... values) {
        ColumnTable t = table(type, 64);
        for (long value : values) {
            t.setLong(0, value);
            t.addRows(1);
        }
        return t;
    }

    private static String code(ColumnTable t, int segment, int column) {
        return t.encoding(segment, column) + " " + t.bits(segment, column) + " " + t.units(segment, column);
    }

    private static void codeDue(String what, ColumnTable t, String want) {
        t.seal();
        Check.due(what, code(t, 0, 0), want);
    }

    private static void seal() {
        ColumnTable t = table(3, 4);
        Check.dueThrow("nothing to seal", IllegalStateException.class, () -> t.seal());
        t.addRows(4);
        Check.dueThrow("a full segment is sealed", IllegalStateException.class, () -> t.seal());
        t.addRows(1);
        Check.due("seal", t.seal(), 1);
        Check.dueThrow("sealed twice", IllegalStateException.class, () -> t.seal());
        t.addRows(1);
        Check.due("a new segment behind it", t.segmentOf(5), 2);
        Check.due("of one row", t.segmentRows(1), 1);
    }

    private static void compact() {
        ColumnTable t = table(3, 4);
        Check.due("nothing", t.compact(), 0);
        t.setLong(0, 0);
        t.setStep(0, 1);
        t.addRows(3);
        t.seal();
        t.addRows(3);
        Check.due("full and open", t.compact(), 2);
        Check.due("full", t.segmentRows(0) + " " + t.isOpen(0), "4 false");
        Check.due("open", t.segmentRows(1) + " " + t.isOpen(1), "2 true");
        Check.due("encoded anew", code(t, 0, 0), "3 134 4");
        Check.select(t, "a = 1");
        t.delete();
        t.selectAll();
        t.sortSelection(0, true);
        Check.due("full alone", t.compact(), 1);
        Check.due("sealed", t.isOpen(0), false);
        Check.dueThrow("nothing to seal", IllegalStateException.class, () -> t.seal());
        Check.due("storage order", Check.picked(t, "a is not null"), "0 2 3 5 / 0");
        t.delete();
        Check.due("none", t.compact(), 0);
        Check.due("no segment", t.segmentCount(), 0);
    }

    private static void recluster() {
        ColumnTable t = table(5, 2);
        double[] values = {2, 0, 1, -0.0, 2, 1};
        for (double value : values) {
            t.setDouble(0, value);
            t.addRows(1);
        }
        t.setNull(0);
        t.addRows(2);
        Check.due("segments", t.recluster(0), 4);
        Check.due("order", Check.picked(t, "a is null or a is not null"), "6 7 3 1 2 5 0 4 / 0");
        Check.due("segment of 3", t.segmentOf(3), 1);
        Check.select(t, "a = 0");
        t.delete();
        Check.due("without deleted rows", t.recluster(0), 3);
        Check.due("order then", Check.picked(t, "a is null or a is not null"), "6 7 2 5 0 4 / 0");
        Check.dueThrow("no column", IndexOutOfBoundsException.class, () -> t.recluster(1));
        Check.dueThrow("column -1", IndexOutOfBoundsException.class, () -> t.recluster(-1));
        t.setDouble(0, -5);
        t.addRows(1);
        Check.due("the last one open", t.recluster(0) + " " + t.isOpen(3), "4 true");
        Check.due("a smaller value first", t.segmentOf(8), 1);
    }

    private static void segmentReaders() {
        ColumnTable t = table(3, 2);
        t.setLong(0, 0);
        t.setStep(0, 1);
        t.addRows(5);
        Check.due("segments", t.segmentCount(), 3);
        Check.due("segmentOf", t.segmentOf(0) + " " + t.segmentOf(3) + " " + t.segmentOf(4), "0 1 2");
        Check.due("open", t.isOpen(1) + " " + t.isOpen(2), "false true");
        Check.select(t, "a in 3..4");
        t.delete();
        Check.due("rows", t.segmentRows(1) + " " + t.segmentRows(2), "2 1");
        Check.due("live", t.segmentLive(0) + " " + t.segmentLive(1) + " " + t.segmentLive(2), "2 1 0");
        Check.dueThrow("deleted", NoSuchElementException.class, () -> t.segmentOf(3));
        Check.dueThrow("not added", IndexOutOfBoundsException.class, () -> t.segmentOf(5));
        Check.dueThrow("row -1", IndexOutOfBoundsException.class, () -> t.segmentOf(-1));
        for (int segment : new int[] {-1, 3}) {
            Check.dueThrow("segmentRows", IndexOutOfBoundsException.class, () -> t.segmentRows(segment));
            Check.dueThrow("segmentLive", IndexOutOfBoundsException.class, () -> t.segmentLive(segment));
            Check.dueThrow("isOpen", IndexOutOfBoundsException.class, () -> t.isOpen(segment));
        }
        t.addRows(1);
        Check.due("an open segment of deleted rows goes on", t.segmentOf(5), 2);
        Check.due("and is sealed when full", t.isOpen(2), false);
        ColumnTable u = table(3, 64);
        u.addRows(64);
        Check.due("64 live rows", u.segmentLive(0), 64);
    }

    private static void plainAndRuns() {
        ColumnTable t = table(5, 64);
        for (double value : new double[] {1, 2, 3}) {
            t.setDouble(0, value);
            t.addRows(1);
        }
        codeDue("plain", t, "0 192 3");
        ColumnTable u = table(5, 64);
        u.setDouble(0, 1);
        u.addRows(3);
        u.setNull(0);
        u.addRows(2);
        u.setDouble(0, 1);
        u.addRows(11);
        // The dictionary needs 64 + 16 bits, three runs of 64 + 1 + 5 bits more.
        codeDue("a dictionary beats runs", u, "2 80 1");
        ColumnTable v = table(0, 64);
        v.setLong(0, 1);
        v.addRows(32);
        v.setLong(0, 0);
        v.addRows(32);
        // Plain 64, runs 2 * (1 + 7), dictionary 2 + 64.
        codeDueSealed("runs", v, "1 16 2");
        ColumnTable w = table(0, 64);
        w.setLong(0, 1);
        w.addRows(2);
        w.setNull(0);
        w.addRows(62);
        // Runs 2 * (1 + 1 + 7), plain 128, dictionary 1 + 64.
        codeDueSealed("runs with nulls", w, "1 18 2");
        ColumnTable x = table(0, 64);
        x.setLong(0, 0);
        x.addRows(1);
        // Plain 1 bit, dictionary 1 bit, runs 2 bits: the smallest number of the fewest.
        codeDue("a tie", x, "0 1 1");
        ColumnTable y = withLongs(1, 5, 5, 5, 9, 9);
        // Runs 2 * (16 + 3), dictionary 32 + 5, delta 32 + 4 * 3.
        codeDue("a dictionary by one bit", y, "2 37 2");
        ColumnTable z = withLongs(1, 5, 5, 5, 9, 9, 9);
        // Runs 2 * (16 + 3), dictionary 32 + 6: a tie that runs win.
        codeDue("runs by their number", z, "1 38 2");
    }

    private static void codeDueSealed(String what, ColumnTable t, String want) {
        Check.due(what, code(t, 0, 0), want);
    }

    private static void dictionary() {
        ColumnTable t = table(4, 64);
        t.addRows(7);
        codeDue("nulls alone take no bits", t, "2 0 0");
        ColumnTable f = table(4, 2);
        f.setDouble(0, 0.5);
        f.setStep(0, 1);
        f.addRows(2);
        Check.due("floats", code(f, 0, 0), "0 64 2");
        Check.due("their zone", f.zoneLow(0, 0) + " " + f.zoneHigh(0, 0), "0.5 1.5");
        f.setStep(0, 0);
        f.addRows(2);
        Check.due("a float twice", code(f, 1, 0), "2 32 1");
        ColumnTable u = table(5, 64);
        for (double value : new double[] {0.0, -0.0, 0.0, -0.0}) {
            u.setDouble(0, value);
            u.addRows(1);
        }
        codeDue("0 and -0 are two values", u, "2 132 2");
        ColumnTable v = withLongs(3, 4);
        codeDue("one value: plain, as dictionary takes the same", v, "0 64 1");
        ColumnTable w = withLongs(3, 1L << 40, 4, 1L << 40, 4);
        codeDue("two values", w, "2 132 2");
        w.setNull(0);
        w.addRows(1);
        w.compact();
        w.seal();
        // Two values and null: indices of 2 bits.
        Check.due("two values and null", code(w, 0, 0), "2 138 2");
    }

    private static void delta() {
        codeDue("rising", withLongs(3, 10, 12, 14, 16), "3 128 4");
        codeDue("spread", withLongs(3, 10, 12, 15, 20), "3 134 4");
        codeDue("falling", withLongs(3, 20, 15, 12, 10), "3 134 4");
        codeDue("two rows tie with plain", withLongs(3, 1, 2), "0 128 2");
        codeDue("equal shorts: a dictionary", withLongs(1, 7, 7, 7), "2 16 1");
        codeDue("short", withLongs(1, 7, 8, 9), "3 32 3");
        codeDue("char", withLongs(2, 9, 8, 7), "3 32 3");
        // The difference of the first two is 2^63 - 1, of the last two below -2^63.
        codeDue("a difference out of range",
                withLongs(3, 0, Long.MAX_VALUE, -5), "0 192 3");
        codeDue("a spread of 2^63 or more",
                withLongs(3, 0, Long.MAX_VALUE, 0), "2 131 2");
        codeDue("a spread of 2^63 - 1",
                withLongs(3, 0, 1L << 62, 1), "0 192 3");
        ColumnTable t = table(3, 64);
        t.setLong(0, 1);
        t.setStep(0, 1);
        t.addRows(3);
        t.setNull(0);
        t.addRows(1);
        codeDue("not with nulls", t, "2 200 3");
        ColumnTable u = table(0, 64);
        u.setLong(0, 0);
        u.addRows(1);
        u.setLong(0, 1);
        u.addRows(1);
        codeDue("not for booleans", u, "0 2 2");
        ColumnTable v = table(5, 64);
        v.setDouble(0, 1);
        v.setStep(0, 1);
        v.addRows(4);
        codeDue("not for doubles", v, "0 256 4");
        // Wide spreads up to 2^63 - 1 among many rows: 2 * 64 + 3 * 63 > 4 * 64, so plain again.
        ColumnTable w = withLongs(3, 0, 1000, 2000, 3001, 4000);
        codeDue("a spread of 2", w, "3 136 5");
    }

    private static void encodedAnew() {
        ColumnTable t = table(3, 4);
        Check.column(t, "b", 5);
        t.setLong(0, 1);
        t.setStep(0, 5);
        t.setDouble(1, 2);
        t.addRows(6);
        Check.due("delta", code(t, 0, 0), "3 128 4");
        Check.due("doubles", code(t, 0, 1), "2 64 1");
        Check.select(t, "a = 6");
        t.setNull(0);
        t.update(0);
        Check.due("with a null", code(t, 0, 0), "2 200 3");
        t.setLong(0, 6);
        t.update(0);
        Check.due("delta again", code(t, 0, 0), "3 128 4");
        t.multiply(1, 3);
        Check.due("two doubles", code(t, 0, 1), "2 132 2");
        t.delete();
        Check.due("a deleted row counts", code(t, 0, 1), "2 132 2");
        t.compact();
        Check.due("until the table is compacted", code(t, 0, 1), "2 64 1");
    }

    private static void encodingErrors() {
        ColumnTable t = table(3, 2);
        t.addRows(3);
        int[][] outside = {{-1, 0}, {2, 0}, {0, -1}, {0, 1}, {1, 1}};
        for (int[] p : outside) {
            Check.dueThrow("encoding", IndexOutOfBoundsException.class, () -> t.encoding(p[0], p[1]));
            Check.dueThrow("bits", IndexOutOfBoundsException.class, () -> t.bits(p[0], p[1]));
            Check.dueThrow("units", IndexOutOfBoundsException.class, () -> t.units(p[0], p[1]));
            Check.dueThrow("zoneLow", IndexOutOfBoundsException.class, () -> t.zoneLow(p[0], p[1]));
            Check.dueThrow("zoneHigh", IndexOutOfBoundsException.class, () -> t.zoneHigh(p[0], p[1]));
        }
        Check.dueThrow("encoding, open", IllegalStateException.class, () -> t.encoding(1, 0));
        Check.dueThrow("bits, open", IllegalStateException.class, () -> t.bits(1, 0));
        Check.dueThrow("units, open", IllegalStateException.class, () -> t.units(1, 0));
        Check.dueThrow("zoneLow, open", IllegalStateException.class, () -> t.zoneLow(1, 0));
        Check.dueThrow("zoneHigh, open", IllegalStateException.class, () -> t.zoneHigh(1, 0));
        Check.dueThrow("zoneLow, nulls", NoSuchElementException.class, () -> t.zoneLow(0, 0));
        Check.dueThrow("zoneHigh, nulls", NoSuchElementException.class, () -> t.zoneHigh(0, 0));
    }

    private static void totalBits() {
        ColumnTable t = table(3, 4);
        Check.column(t, "b", 0);
        t.setLong(0, 1);
        t.setStep(0, 5);
        t.addRows(7);
        Check.due("of the sealed segment", t.totalBits(), t.bits(0, 0) + t.bits(0, 1));
        t.seal();
        Check.due("of both", t.totalBits(), 128L + 128L);
    }

    private static void zones() {
        ColumnTable t = table(5, 4);
        Check.column(t, "b", 3);
        Check.column(t, "c", 0);
        double[] values = {0.0, -0.0, 0.0};
        for (double value : values) {
            t.setDouble(0, value);
            t.addRows(1);
        }
        t.setNull(0);
        t.setLong(1, Long.MAX_VALUE);
        t.setLong(2, 1);
        t.addRows(1);
        Check.due("-0 is the least", t.zoneLow(0, 0), -0.0);
        Check.due("0 is the greatest", t.zoneHigh(0, 0), 0.0);
        Check.due("as a double", t.zoneLow(0, 1), 9.223372036854775807e18);
        Check.due("true", t.zoneHigh(0, 2), 1.0);
        Check.select(t, "b is not null");
        t.delete();
        Check.due("a deleted row counts", t.zoneLow(0, 2), 1.0);
        t.setDouble(0, 4);
        t.setLong(1, -7);
        t.addRows(3);
        t.setDouble(0, -4.5);
        t.setLong(1, 12);
        t.addRows(1);
        Check.due("low and high", t.zoneLow(1, 0) + " " + t.zoneHigh(1, 0), "-4.5 4.0");
        Check.due("long low and high", t.zoneLow(1, 1) + " " + t.zoneHigh(1, 1), "-7.0 12.0");
        Check.select(t, "b = 12");
        t.multiply(0, -2);
        Check.due("after a change", t.zoneLow(1, 0) + " " + t.zoneHigh(1, 0), "4.0 9.0");
    }
}
