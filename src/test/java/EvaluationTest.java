/** Promises 34 and 38 with sections 4 and 5: what a predicate selects, and its comparisons. */
public final class EvaluationTest {
    public static void main(String[] args) {
        comparisons();
        ranges();
        threeValues();
        booleans();
        zeros();
        remainders();
        realRemainders();
        floatConstants();
        pairs();
        openAndPlain();
        zones();
        runs();
        dictionary();
        searches();
        falling();
        skipping();
        deletedRows();
        kept();
        Check.end();
    }

    private static ColumnTable table(int size, int... types) {
        ColumnTable t = new ColumnTable();
        for (int i = 0; i < types.length; i++) {
            Check.column(t, "" + (char) ('a' + i), types[i]);
        }
        t.setSegmentSize(size);
        return t;
    }

    private static ColumnTable withLongs(int size, int type, long... values) {
        ColumnTable t = table(size, type);
        for (long value : values) {
            t.setLong(0, value);
            t.addRows(1);
        }
        return t;
    }

    private static ColumnTable withDoubles(int size, int type, double... values) {
        ColumnTable t = table(size, type);
        for (double value : values) {
            t.setDouble(0, value);
            t.addRows(1);
        }
        return t;
    }

    private static void due(ColumnTable t, String text, String want) {
        Check.due("'" + text + "'", Check.picked(t, text), want);
    }

    private static void comparisons() {
        ColumnTable t = withLongs(16, 3, 4, 5, 6);
        due(t, "a = 5", "1 / 3");
        due(t, "a <> 5", "0 2 / 3");
        due(t, "a < 5", "0 / 3");
        due(t, "a <= 5", "0 1 / 3");
        due(t, "a > 5", "2 / 3");
        due(t, "a >= 5", "1 2 / 3");
        due(t, "a > -5", "0 1 2 / 3");
        ColumnTable u = withLongs(16, 3, Long.MAX_VALUE, Long.MAX_VALUE - 1);
        due(u, "a = 9223372036854775807", "0 / 2");
    }

    private static void ranges() {
        ColumnTable t = withLongs(16, 3, 4, 5, 6);
        due(t, "a in 4 .. 5", "0 1 / 3");
        due(t, "a in 5 .. 5", "1 / 3");
        due(t, "a in 6 .. 4", "/ 3");
        due(t, "a in -1 .. 9", "0 1 2 / 3");
        t.seal();
        due(t, "a in 6 .. 4", "/ 0");
        due(t, "a in 5 .. 5", "1 / 4");
    }

    private static void threeValues() {
        // a: null, 1, 2; b: true, null, false
        ColumnTable t = table(16, 3, 0);
        t.setLong(1, 1);
        t.addRows(1);
        t.setLong(0, 1);
        t.setNull(1);
        t.addRows(1);
        t.setLong(0, 2);
        t.setLong(1, 0);
        t.addRows(1);
        due(t, "a = 1", "1 / 2");
        due(t, "not a = 1", "2 / 2");
        due(t, "not not a = 1", "1 / 2");
        due(t, "a is null", "0 / 0");
        due(t, "a is not null", "1 2 / 0");
        due(t, "not a is not null", "0 / 0");
        due(t, "b", "0 / 0");
        due(t, "not b", "2 / 0");
        due(t, "b or a = 1", "0 1 / 2");
        due(t, "b and a = 1", "/ 2");
        due(t, "not (b and a = 1)", "2 / 2");
        due(t, "not (b or a = 1)", "2 / 2");
        due(t, "not (b or a = 2)", "/ 2");
        due(t, "b or a = 1 and b is null", "0 1 / 2");
        due(t, "(b or a = 1) and b is null", "1 / 2");
        due(t, "not b or a = 1", "1 2 / 2");
    }

    private static void booleans() {
        ColumnTable t = withLongs(2, 0, 0, 1, 1, 0);
        due(t, "a", "1 2 / 0");
        due(t, "not a", "0 3 / 0");
        due(t, "a or a is null or not a", "0 1 2 3 / 0");
    }

    private static void zeros() {
        ColumnTable t = withDoubles(16, 5, -0.0, 0.0, 1);
        due(t, "a = 0", "0 1 / 3");
        due(t, "a = -0.0", "0 1 / 3");
        due(t, "a < 0", "/ 3");
        due(t, "a >= 0", "0 1 2 / 3");
        due(t, "a in -0 .. 0", "0 1 / 3");
        ColumnTable u = withDoubles(2, 4, -0.0, 0.0);
        due(u, "a = 0", "0 1 / 0");
        due(u, "a < 0", "/ 0");
    }

    private static void remainders() {
        ColumnTable t = withLongs(16, 3, -7, 7, 6, Long.MIN_VALUE, 0);
        due(t, "a % 4 = 3", "1 / 5");
        due(t, "a % 4 = -3", "0 / 5");
        due(t, "a % -4 = 3", "1 / 5");
        due(t, "a % 2 = 0", "2 3 4 / 5");
        due(t, "a % -1 = 0", "0 1 2 3 4 / 5");
        due(t, "a % -9223372036854775808 = 0", "3 4 / 5");
        due(t, "a % 10 < 0", "0 3 / 5");
        due(t, "a % 5 <> 2", "0 2 3 4 / 5");
        due(t, "a % 100 >= 6", "1 2 / 5");
    }

    private static void realRemainders() {
        ColumnTable t = withDoubles(16, 5, 7.5, -7.5, 0.3, 1e9, -0.0, 1e-300);
        due(t, "a % 2 = 1.5", "0 / 6");
        due(t, "a % 2 = -1.5", "1 / 6");
        due(t, "a % -2 = 1.5", "0 / 6");
        due(t, "a % 2.5 = 0", "0 1 3 4 / 6");
        // 7.5, 0.3 and 10^9 are a little less than multiples of the double 0.1: the exact remainders are almost 0.1.
        due(t, "a % 0.1 > 0.09", "0 2 3 / 6");
        due(t, "a % 0.00000000000003 < 0.00000000000003", "0 1 2 3 4 5 / 6");
        due(t, "a % 1000000000 = 0", "3 4 / 6");
        double[] values = {1e9, 999999999.125, 123456.789, 3.3, 1e-14};
        for (double value : values) {
            for (String divisor : new String[] {"0.00000000000001", "0.00000000000007", "0.3", "7", "123.456"}) {
                double rest = value % Double.parseDouble(divisor);
                ColumnTable u = withDoubles(16, 5, value);
                // The exact remainder r lies in the gap that -1 and the next 15-digit numbers leave open.
                String low = new java.math.BigDecimal(rest).setScale(14, java.math.RoundingMode.FLOOR).toPlainString();
                String high = new java.math.BigDecimal(rest).setScale(14, java.math.RoundingMode.CEILING).toPlainString();
                if (low.length() <= 16 && high.length() <= 16) {
                    due(u, "a % " + divisor + " >= " + low + " and a % " + divisor + " <= " + high, "0 / 2");
                }
            }
        }
        ColumnTable f = withDoubles(16, 4, 0.3, 0.75);
        double rest = (double) 0.3f % (double) 0.1f;
        Check.due("floats with the float nearest to 0.1",
                Check.picked(f, "a % 0.1 < 0.01"), rest < 0.01f ? "0 / 2" : "/ 2");
        due(f, "a % 0.5 = 0.25", "1 / 2");
    }

    private static void floatConstants() {
        ColumnTable t = withDoubles(16, 4, 0.1, 16777216);
        due(t, "a = 0.1", "0 / 2");
        due(t, "a = 16777217", "1 / 2");
        due(t, "a < 0.10000000000001", "/ 2");
        ColumnTable u = withDoubles(16, 5, 0.1, (double) 0.1f);
        due(u, "a = 0.1", "0 / 2");
        due(u, "a = 0.10000000000000", "0 / 2");
        due(u, "a in 0.1 .. 0.1", "0 / 2");
        ColumnTable v = withDoubles(16, 5, 0.00000000000001, 123456.789012345, -999999999.999999);
        due(v, "a = 0.00000000000001", "0 / 3");
        due(v, "a = 123456.789012345", "1 / 3");
        due(v, "a = -999999999.999999", "2 / 3");
    }

    private static void pairs() {
        ColumnTable t = table(2, 3, 1, 5, 4);
        long[][] rows = {{1, 1}, {2, 1}, {1, 2}, {-3, -3}};
        for (long[] row : rows) {
            t.setLong(0, row[0]);
            t.setLong(1, row[1]);
            t.setDouble(2, row[0] == 1 ? -0.0 : 0.1);
            t.setDouble(3, row[0] == 1 ? 0.0 : 0.1);
            t.addRows(1);
        }
        t.setNull(1);
        t.addRows(1);
        due(t, "a = b", "0 3 / 4");
        due(t, "a <> b", "1 2 / 4");
        due(t, "a < b", "2 / 4");
        due(t, "b < a", "1 / 4");
        due(t, "a >= b", "0 1 3 / 4");
        due(t, "a <= b", "0 2 3 / 4");
        due(t, "a > b", "1 / 4");
        due(t, "c = d", "0 2 / 5");
        due(t, "c < d", "1 3 4 / 5");
        due(t, "b = b", "0 1 2 3 / 4");
    }

    private static void openAndPlain() {
        ColumnTable t = withDoubles(16, 5, 1, 5, 3);
        t.setNull(0);
        t.addRows(2);
        due(t, "a > 2", "1 2 / 3");
        due(t, "a > 9", "/ 3");
        due(t, "a % 2 = 1", "0 1 2 / 3");
        t.seal();
        Check.due("a dictionary", t.encoding(0, 0), 2);
        ColumnTable u = withDoubles(4, 5, 1, 5, 3, 4);
        Check.due("plain", u.encoding(0, 0), 0);
        due(u, "a > 2", "1 2 3 / 4");
        due(u, "a % 2 = 1", "0 1 2 / 4");
        due(u, "a > 2 and a % 2 = 0", "3 / 8");
        ColumnTable w = table(4, 0, 3);
        w.addRows(4);
        due(w, "b > 2 or b % 2 = 1 or b = b", "/ 0");
        due(w, "not b > 2", "/ 0");
    }

    private static void zones() {
        ColumnTable t = withDoubles(4, 5, 2, 5, 3, 4);
        due(t, "a < 2", "/ 0");
        due(t, "a < 2.1", "0 / 4");
        due(t, "a < 5", "0 2 3 / 4");
        due(t, "a < 5.1", "0 1 2 3 / 0");
        due(t, "a <= 1.9", "/ 0");
        due(t, "a <= 2", "0 / 4");
        due(t, "a <= 5", "0 1 2 3 / 0");
        due(t, "a > 5", "/ 0");
        due(t, "a > 2", "1 2 3 / 4");
        due(t, "a > 1", "0 1 2 3 / 0");
        due(t, "a >= 2", "0 1 2 3 / 0");
        due(t, "a >= 5", "1 / 4");
        due(t, "a >= 5.5", "/ 0");
        due(t, "a = 1", "/ 0");
        due(t, "a = 2", "0 / 4");
        due(t, "a = 3.5", "/ 4");
        due(t, "a = 6", "/ 0");
        due(t, "a <> 6", "0 1 2 3 / 0");
        due(t, "a <> 3.5", "0 1 2 3 / 4");
        due(t, "a in 2 .. 5", "0 1 2 3 / 0");
        due(t, "a in 2 .. 4.9", "0 2 3 / 4");
        due(t, "a in 5.1 .. 9", "/ 0");
        due(t, "a in 0 .. 1.9", "/ 0");
        due(t, "a in 0 .. 2", "0 / 4");
        due(t, "a in 3.5 .. 3.6", "/ 4");
        due(t, "a in 4 .. 3", "/ 0");
        due(t, "not a in 4 .. 3", "0 1 2 3 / 0");
        ColumnTable u = withDoubles(4, 5, 7, 7, 7, 7);
        due(u, "a = 7", "0 1 2 3 / 0");
        due(u, "a <> 7", "/ 0");
        u.setNull(0);
        u.addRows(1);
        u.setDouble(0, 8);
        u.addRows(3);
        due(u, "a <= 7.5", "0 1 2 3 / 0");
        due(u, "not a <= 7.5", "5 6 7 / 0");
    }

    private static void runs() {
        ColumnTable t = table(64, 1);
        long[] values = {5, 9, 5};
        for (long value : values) {
            t.setLong(0, value);
            t.addRows(20);
        }
        t.setNull(0);
        t.addRows(4);
        Check.due("encoding", t.encoding(0, 0) + " " + t.units(0, 0), "1 4");
        Check.due("rows", Check.select(t, "a > 5"), 20);
        Check.due("a comparison for each run with a value", t.comparisons(), 3L);
        Check.due("rows", Check.select(t, "a % 5 = 0"), 40);
        Check.due("for remainders, too", t.comparisons(), 3L);
        Check.select(t, "a = a");
        Check.due("for names one for each row", t.comparisons(), 60L);
    }

    private static void dictionary() {
        ColumnTable t = withLongs(8, 3, 1L << 50, 3, 1L << 50, 3, 7, 7, 3);
        t.setNull(0);
        t.addRows(1);
        Check.due("encoding", t.encoding(0, 0) + " " + t.units(0, 0), "2 3");
        due(t, "a > 5", "0 2 4 5 / 3");
        due(t, "a % 2 = 1", "1 3 4 5 6 / 3");
        due(t, "a < 2", "/ 0");
        due(t, "a = a", "0 1 2 3 4 5 6 / 7");
    }

    private static void searches() {
        // Ten rising values: 0, 10, .. 90. A search looks at row 5 first, then at 2 or 8, and so on.
        ColumnTable t = table(10, 3);
        t.setLong(0, 0);
        t.setStep(0, 10);
        t.addRows(10);
        Check.due("encoding", t.encoding(0, 0), 3);
        due(t, "a < 50", "0 1 2 3 4 / 3");
        due(t, "a >= 50", "5 6 7 8 9 / 3");
        due(t, "a <= 50", "0 1 2 3 4 5 / 4");
        due(t, "a > 50", "6 7 8 9 / 4");
        due(t, "a > 5", "1 2 3 4 5 6 7 8 9 / 4");
        due(t, "a > 85", "9 / 3");
        due(t, "a = 50", "5 / 7");
        due(t, "a <> 50", "0 1 2 3 4 6 7 8 9 / 7");
        due(t, "a in 10 .. 80", "1 2 3 4 5 6 7 8 / 7");
        due(t, "a in 1 .. 2", "/ 8");
        due(t, "a in 2 .. 1", "/ 0");
        due(t, "a % 20 = 10", "1 3 5 7 9 / 10");
        due(t, "a < 0", "/ 0");
        due(t, "a <= 90", "0 1 2 3 4 5 6 7 8 9 / 0");
        due(t, "a = 91", "/ 0");
        due(t, "a = a", "0 1 2 3 4 5 6 7 8 9 / 10");
    }

    private static void falling() {
        ColumnTable t = table(10, 3);
        t.setLong(0, 90);
        t.setStep(0, -10);
        t.addRows(10);
        Check.due("encoding", t.encoding(0, 0), 3);
        due(t, "a < 50", "5 6 7 8 9 / 10");
        due(t, "a % 20 = 10", "0 2 4 6 8 / 10");
        due(t, "a < 0", "/ 0");
        ColumnTable u = withLongs(5, 3, 100, 101, 102, 102, 103);
        Check.due("rising with equal values", u.encoding(0, 0), 3);
        due(u, "a > 102", "4 / 3");
        due(u, "a >= 102", "2 3 4 / 2");
    }

    private static void skipping() {
        ColumnTable t = table(4, 5, 0);
        t.setLong(1, 0);
        t.setDouble(0, 1);
        t.setStep(0, 1);
        t.addRows(4);
        t.setLong(1, 1);
        t.addRows(4);
        // b is false in segment 0 and true in segment 1.
        due(t, "b and a > 2", "6 7 / 4");
        due(t, "b or a > 2", "2 3 4 5 6 7 / 4");
        due(t, "a > 2 and b", "6 7 / 8");
        due(t, "not b and a > 2", "2 3 / 4");
        due(t, "not (b and a > 2)", "0 1 2 3 4 5 / 4");
        due(t, "b and a > 2 and a > 3", "7 / 8");
        due(t, "b and (a > 2 and a > 3)", "7 / 8");
        // Evaluated from left to right: what came so far decides, not the part before alone.
        due(t, "a < 3 or a >= 3 or a = 2", "0 1 2 3 4 5 6 7 / 16");
        due(t, "a < 3 or (a >= 3 or a = 2)", "0 1 2 3 4 5 6 7 / 24");
        due(t, "a < 3 and a >= 3 and a = 2", "/ 16");
        t.setNull(1);
        Check.select(t, "a = 1 or a = 2");
        t.update(1);
        // Unknown is not false: segment 0 is evaluated further.
        due(t, "b and a > 2", "6 7 / 8");
    }

    private static void deletedRows() {
        ColumnTable t = table(4, 5, 0);
        t.setLong(1, 1);
        t.setDouble(0, 1);
        t.setStep(0, 1);
        t.addRows(3);
        t.setLong(1, 0);
        t.setDouble(0, 4);
        t.addRows(1);
        due(t, "b or a > 2", "0 1 2 3 / 4");
        due(t, "not b", "3 / 0");
        t.delete();
        due(t, "b or a > 2", "0 1 2 / 0");
        due(t, "a > 2", "2 / 4");
        due(t, "a < 4", "0 1 2 / 4");
        due(t, "a > 0", "0 1 2 / 0");
        due(t, "a = a", "0 1 2 / 4");
        t.delete();
        due(t, "a > 2", "/ 0");
        t.addRows(2);
        due(t, "a > 4", "5 / 2");
    }

    private static void kept() {
        ColumnTable t = withDoubles(4, 5, 2, 5, 3, 4);
        due(t, "a > 2", "1 2 3 / 4");
        Check.error(t, "a >");
        Check.due("kept by an error", t.comparisons(), 4L);
        t.selectAll();
        Check.due("kept by selectAll", t.comparisons(), 4L);
        due(t, "a is null", "/ 0");
    }
}
