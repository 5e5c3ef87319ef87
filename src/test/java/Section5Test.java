/** Section 5 of the document, sentence by sentence: the evaluation of predicates and its comparisons. */
public final class Section5Test {
    private static final int BOOLEAN = 0;
    private static final int SHORT = 1;
    private static final int LONG = 3;
    private static final int FLOAT = 4;
    private static final int DOUBLE = 5;

    public static void main(String[] args) throws Exception {
        Sentences doc = new Sentences("section", 5, 5);
        doc.at("section 5");
        segments(doc);
        leftToRight(doc);
        withoutComparisons(doc);
        zone(doc);
        scans(doc);
        searches(doc);
        remainders(doc);
        pairs(doc);
        doc.end();
    }

    private static void due(ColumnTable t, String text, String want) {
        Check.due(text, Check.picked(t, text), want);
    }

    /** Segments of 4 doubles: a from 1 to 8, b true in the second segment alone. */
    private static ColumnTable twoSegments() {
        ColumnTable t = Tables.of(4, DOUBLE, BOOLEAN);
        t.setDouble(0, 1);
        t.setStep(0, 1);
        t.setLong(1, 0);
        t.addRows(4);
        t.setDouble(0, 5);
        t.setLong(1, 1);
        t.addRows(4);
        return t;
    }

    private static void segments(Sentences doc) {
        doc.hold("A predicate is evaluated for one segment after the other, in ascending order.", () -> {
            ColumnTable t = twoSegments();
            due(t, "a > 2 and a < 8", "2 3 4 5 6 / 8");
            due(t, "a <> 3 and a <> 6", "0 1 3 4 6 7 / 8");
            t.recluster(1);
            t.setDouble(0, 0);
            t.setStep(0, 0);
            t.setLong(1, 0);
            t.addRows(1);
            t.recluster(0);
            due(t, "a < 3", "8 0 1 / 5");
        });
        doc.hold("A segment whose rows are all deleted is skipped.", () -> {
            ColumnTable t = twoSegments();
            t.addRows(2);
            due(t, "a % 2 = 1", "0 2 4 6 8 / 10");
            Tables.drop(t, "a <= 3 or a >= 9");
            due(t, "a % 2 = 1", "4 6 8 / 10");
            Tables.drop(t, "a < 5");
            due(t, "a % 2 = 1", "4 6 8 / 6");
            Tables.drop(t, "b");
            due(t, "a % 2 = 1 or a is null or a = a", "/ 0");
        });
    }

    private static void leftToRight(Sentences doc) {
        doc.hold("In a segment, and and or are evaluated from left to right: for x and y, x is evaluated for all rows of the"
                + " segment; if x is false for all rows that are not deleted, y is not evaluated in this segment.", () -> {
            ColumnTable t = twoSegments();
            due(t, "b and a % 2 = 0", "5 7 / 4");
            due(t, "a % 2 = 0 and b", "5 7 / 8");
            due(t, "a % 2 = 0 and a % 4 = 0", "3 7 / 16");
            due(t, "a % 9 = 0 and a % 4 = 0", "/ 8");
            due(t, "not b and a % 2 = 0", "1 3 / 4");
            due(t, "b and a % 2 = 0 and a % 4 = 0", "7 / 8");
            due(t, "b and a % 9 = 0 and a % 4 = 0", "/ 4");
            due(t, "a % 2 = 0 and b and a % 4 = 0", "7 / 12");
            due(t, "b and (a % 2 = 0 and a % 4 = 0)", "7 / 8");
            // One row that is unknown, then one that is true: y is evaluated in both cases.
            Check.select(t, "a = 1");
            t.setNull(1);
            t.update(1);
            due(t, "b and a % 2 = 0", "5 7 / 8");
            Check.select(t, "a = 1");
            t.setLong(1, 1);
            t.update(1);
            due(t, "b and a % 2 = 0", "5 7 / 8");
            Tables.drop(t, "a = 1");
            due(t, "b and a % 2 = 0", "5 7 / 4");
            ColumnTable open = twoSegments();
            open.setLong(1, 0);
            open.addRows(2);
            due(open, "b and a % 2 = 0", "5 7 / 4");
        });
        doc.hold("For x or y, y is not evaluated if x is true for all rows that are not deleted.", () -> {
            ColumnTable t = twoSegments();
            due(t, "b or a % 2 = 0", "1 3 4 5 6 7 / 4");
            due(t, "not b or a % 2 = 0", "0 1 2 3 5 7 / 4");
            due(t, "a % 1 = 0 or a % 2 = 0", "0 1 2 3 4 5 6 7 / 8");
            due(t, "b or a % 2 = 0 or a % 2 = 1", "0 1 2 3 4 5 6 7 / 8");
            due(t, "a % 2 = 0 or a % 2 = 1 or a % 3 = 0", "0 1 2 3 4 5 6 7 / 16");
            due(t, "a % 2 = 0 or (a % 2 = 1 or a % 3 = 0)", "0 1 2 3 4 5 6 7 / 24");
            Check.select(t, "a = 8");
            t.setNull(1);
            t.update(1);
            due(t, "b or a % 2 = 0", "1 3 4 5 6 7 / 8");
            Check.select(t, "a = 8");
            t.setLong(1, 0);
            t.update(1);
            due(t, "b or a % 2 = 0", "1 3 4 5 6 7 / 8");
            Tables.drop(t, "a = 8");
            due(t, "b or a % 2 = 0", "1 3 4 5 6 / 4");
            due(t, "(b or a % 2 = 0) and a % 3 = 0", "5 / 12");
        });
    }

    private static void withoutComparisons(Sentences doc) {
        doc.hold("The evaluation of a test counts comparisons as follows; a value means a cell that is not null:", () -> {
            ColumnTable t = Tables.doubles(16, DOUBLE, 1, 2, 3);
            Tables.addNulls(t, 4);
            due(t, "a > 1", "1 2 / 3");
            due(t, "not not a > 1 and (a > 1)", "1 2 / 6");
            due(t, "a > 1 or a > 1 or a > 1", "1 2 / 9");
        });
        doc.hold("name is null, name is not null, and a BOOLEAN name: none.", () -> {
            ColumnTable t = twoSegments();
            t.setNull(0);
            t.setNull(1);
            t.addRows(1);
            due(t, "a is null", "8 / 0");
            due(t, "a is not null", "0 1 2 3 4 5 6 7 / 0");
            due(t, "b", "4 5 6 7 / 0");
            due(t, "not b", "0 1 2 3 / 0");
            due(t, "b is null or b or not b", "0 1 2 3 4 5 6 7 8 / 0");
        });
        doc.hold("name comparison constant, and name in a .. b: if the column has no values in the segment: none.", () -> {
            ColumnTable t = Tables.of(2, LONG);
            t.addRows(3);
            due(t, "a > 1", "/ 0");
            due(t, "not a in 1 .. 2", "/ 0");
            t.setLong(0, 5);
            t.addRows(2);
            due(t, "a > 1", "3 4 / 1");
            Check.select(t, "a = 5");
            t.delete();
            due(t, "a > 9 or a is null", "0 1 2 / 0");
        });
    }

    private static void zone(Sentences doc) {
        doc.hold("If the segment is sealed, the zone is examined first, without counting: if all numbers from the least to the"
                + " greatest value of the zone would give the same result, this is the result for all values, and there are no"
                + " comparisons.", () -> {
            ColumnTable t = Tables.doubles(4, DOUBLE, 2, 5, 3, 4);
            String[] same = {"a < 2", "a < 5.1", "a <= 1.9", "a <= 5", "a > 5", "a > 1.9", "a >= 2", "a >= 5.1", "a = 1.9",
                "a = 5.1", "a <> 1.9", "a <> 5.1", "a in 2 .. 5", "a in 1 .. 6", "a in 5.1 .. 9", "a in -9 .. 1.9", "a in 4 .. 3"};
            for (String text : same) {
                Check.select(t, text);
                Check.due(text, t.comparisons(), 0L);
            }
            String[] different = {"a < 2.1", "a < 5", "a <= 2", "a <= 4.9", "a > 2", "a > 4.9", "a >= 2.1", "a >= 5", "a = 2",
                "a = 5", "a = 3.5", "a <> 2", "a <> 5", "a <> 3.5", "a in 2.1 .. 5", "a in 2 .. 4.9", "a in 5 .. 9",
                "a in -9 .. 2", "a in 3.5 .. 3.6"};
            for (String text : different) {
                Check.select(t, text);
                Check.due(text, t.comparisons(), 4L);
            }
            due(t, "a <= 5", "0 1 2 3 / 0");
            due(t, "a < 2", "/ 0");
            due(t, "a in 4 .. 3", "/ 0");
            due(t, "not a in 4 .. 3", "0 1 2 3 / 0");
            ColumnTable one = Tables.doubles(2, DOUBLE, -0.0, 0.0);
            due(one, "a = 0", "0 1 / 0");
            due(one, "a <> -0", "/ 0");
            due(one, "a in 0 .. -0", "0 1 / 0");
            ColumnTable n = Tables.doubles(3, DOUBLE, 7, 7);
            Tables.addNulls(n, 1);
            due(n, "a = 7", "0 1 / 0");
            due(n, "not a < 8", "/ 0");
            due(n, "a < 8 or a is null", "0 1 2 / 0");
            ColumnTable open = Tables.doubles(16, DOUBLE, 7, 7);
            due(open, "a = 7", "0 1 / 2");
            open.seal();
            due(open, "a = 7", "0 1 / 0");
            ColumnTable deleted = Tables.doubles(3, DOUBLE, 1, 5, 6);
            Tables.drop(deleted, "a = 1");
            due(deleted, "a > 4", "1 2 / 3");
        });
    }

    private static void scans(Sentences doc) {
        doc.hold("Otherwise: in an open segment or a PLAIN column one for each value;", () -> {
            ColumnTable t = Tables.doubles(8, DOUBLE, 1, 1, 1, 2);
            Tables.addNulls(t, 3);
            due(t, "a > 1", "3 / 4");
            due(t, "a in 1 .. 1", "0 1 2 / 4");
            ColumnTable plain = Tables.doubles(4, DOUBLE, 1, 2, 3, 4);
            Check.due("plain", plain.encoding(0, 0), 0);
            due(plain, "a > 1", "1 2 3 / 4");
            ColumnTable nulls = Tables.longs(4, BOOLEAN, 1, 0, 1);
            Check.due("booleans have no such test", Check.error(nulls, "a = 1"), "3 at 0");
            ColumnTable withNull = Tables.doubles(3, FLOAT, 1, 2);
            Tables.addNulls(withNull, 1);
            Check.due("a dictionary", Tables.code(withNull, 0, 0), "2 70 2");
            due(withNull, "a > 1", "1 / 2");
        });
        doc.hold("in a RUNS column one for each run that has a value;", () -> {
            ColumnTable t = Tables.of(64, SHORT);
            for (long value : new long[] {5, 9, 5}) {
                t.setLong(0, value);
                t.addRows(15);
            }
            Tables.addNulls(t, 15);
            t.setLong(0, 9);
            t.addRows(4);
            Check.due("runs", t.encoding(0, 0) + " " + t.units(0, 0), "1 5");
            Check.due("rows", Check.select(t, "a > 5"), 19);
            Check.due("four of five runs", t.comparisons(), 4L);
            Tables.drop(t, "a = 5");
            Check.due("rows", Check.select(t, "a > 5"), 19);
            Check.due("runs of deleted rows count", t.comparisons(), 4L);
        });
        doc.hold("in a DICTIONARY column d;", () -> {
            ColumnTable t = Tables.longs(8, LONG, 1L << 50, 3, 1L << 50, 3, 7, 7, 3);
            Tables.addNulls(t, 1);
            Check.due("a dictionary", t.encoding(0, 0) + " " + t.units(0, 0), "2 3");
            due(t, "a > 5", "0 2 4 5 / 3");
            due(t, "a in 4 .. 9", "4 5 / 3");
            Tables.drop(t, "a = 7");
            due(t, "a > 5", "0 2 / 3");
        });
        doc.hold("in a DELTA column that is not rising n;", () -> {
            ColumnTable t = Tables.longs(6, LONG, 60, 50, 40, 30, 20, 10);
            Check.due("delta", t.encoding(0, 0), 3);
            due(t, "a < 35", "3 4 5 / 6");
            due(t, "a = 30", "3 / 6");
            due(t, "a in 20 .. 30", "3 4 / 6");
            Tables.drop(t, "a = 50");
            due(t, "a < 35", "3 4 5 / 6");
        });
    }

    /** Ten rising values 0, 10 .. 90: a search looks at row 5 first, then at 2 or 8, and so on. */
    private static ColumnTable ten() {
        ColumnTable t = Tables.of(10, LONG);
        t.setLong(0, 0);
        t.setStep(0, 10);
        t.addRows(10);
        return t;
    }

    /** The comparisons of a search among n values of which the first so many are not what is searched for. */
    private static int looks(int n, int before) {
        int low = 0;
        int high = n;
        int looks = 0;
        while (low < high) {
            int mid = (low + high) / 2;
            looks++;
            if (mid >= before) {
                high = mid;
            } else {
                low = mid + 1;
            }
        }
        return looks;
    }

    private static void searches(Sentences doc) {
        doc.hold("in a rising DELTA column those of binary searches. There are two kinds of searches: the first row whose value is"
                + " at least x, and the first row whose value is greater than x.", () -> {
            ColumnTable t = ten();
            due(t, "a >= 50", "5 6 7 8 9 / 3");
            due(t, "a > 50", "6 7 8 9 / 4");
            ColumnTable equal = Tables.longs(8, SHORT, 3, 3, 4, 4, 5, 5, 6, 6);
            Check.due("delta", equal.encoding(0, 0), 3);
            due(equal, "a >= 5", "4 5 6 7 / 3");
            due(equal, "a > 5", "6 7 / 3");
        });
        doc.hold("A search begins with low = 0 and high = n; as long as low < high, it looks at row mid = (low + high) / 2, rounded"
                + " down, which counts as one comparison; if the value in this row is what is searched for, high becomes mid,"
                + " otherwise low becomes mid + 1.", () -> {
            for (int n : new int[] {3, 4, 7, 10, 33, 63, 64}) {
                ColumnTable t = Tables.rising(n, n);
                Check.due("delta of " + n, t.encoding(0, 0), 3);
                for (int x = 1; x < n; x++) {
                    Check.due("rows", Check.select(t, "a >= " + x), n - x);
                    Check.due("looks for " + x + " in " + n, t.comparisons(), (long) looks(n, x));
                }
            }
            ColumnTable two = Tables.longs(2, LONG, 1, 2);
            Check.due("two rows are plain", two.encoding(0, 0), 0);
            ColumnTable deleted = ten();
            Tables.drop(deleted, "a = 50");
            due(deleted, "a >= 50", "6 7 8 9 / 3");
        });
        doc.hold("< and >= need one search for at least x,", () -> {
            ColumnTable t = ten();
            for (int x = 1; x <= 9; x++) {
                Check.due("<", Check.select(t, "a < " + 10 * x) + " " + t.comparisons(), x + " " + looks(10, x));
                Check.due(">=", Check.select(t, "a >= " + 10 * x) + " " + t.comparisons(), (10 - x) + " " + looks(10, x));
            }
        });
        doc.hold("<= and > one for greater than x,", () -> {
            ColumnTable t = ten();
            for (int x = 0; x < 9; x++) {
                Check.due("<=", Check.select(t, "a <= " + 10 * x) + " " + t.comparisons(), (x + 1) + " " + looks(10, x + 1));
                Check.due(">", Check.select(t, "a > " + 10 * x) + " " + t.comparisons(), (9 - x) + " " + looks(10, x + 1));
            }
        });
        doc.hold("= and <> one of each kind,", () -> {
            ColumnTable t = ten();
            for (int x = 0; x <= 9; x++) {
                int both = looks(10, x) + looks(10, x + 1);
                Check.due("=", Check.picked(t, "a = " + 10 * x), x + " / " + both);
                Check.due("<>", Check.select(t, "a <> " + 10 * x) + " " + t.comparisons(), "9 " + both);
            }
            Check.due("of a value that is not there", Check.picked(t, "a = 55"), "/ " + 2 * looks(10, 6));
        });
        doc.hold("in a .. b one for at least a and one for greater than b.", () -> {
            ColumnTable t = ten();
            Check.due("both ends", Check.picked(t, "a in 10 .. 80"), "1 2 3 4 5 6 7 8 / " + (looks(10, 1) + looks(10, 9)));
            Check.due("beyond the least", Check.picked(t, "a in -5 .. 20"), "0 1 2 / " + (looks(10, 0) + looks(10, 3)));
            Check.due("beyond the greatest", Check.picked(t, "a in 85 .. 1000"), "9 / " + (looks(10, 9) + looks(10, 10)));
            Check.due("between two values", Check.picked(t, "a in 41 .. 49"), "/ " + 2 * looks(10, 5));
            Check.due("one value", Check.picked(t, "a in 40 .. 40"), "4 / " + (looks(10, 4) + looks(10, 5)));
        });
    }

    private static void remainders(Sentences doc) {
        doc.hold("name % c comparison constant: in an open segment or a PLAIN column one for each value,", () -> {
            ColumnTable t = Tables.longs(16, LONG, 3, 3, 3);
            Tables.addNulls(t, 2);
            due(t, "a % 2 = 1", "0 1 2 / 3");
            ColumnTable plain = Tables.doubles(3, DOUBLE, 1, 2, 3);
            Check.due("plain", plain.encoding(0, 0), 0);
            due(plain, "a % 2 = 1", "0 2 / 3");
            due(plain, "a % 2 < 9", "0 1 2 / 3");
        });
        doc.hold("in a RUNS column one for each run that has a value,", () -> {
            ColumnTable t = Tables.of(64, SHORT);
            t.setLong(0, 4);
            t.addRows(20);
            t.setLong(0, 5);
            t.addRows(20);
            Tables.addNulls(t, 24);
            Check.due("runs", t.encoding(0, 0) + " " + t.units(0, 0), "1 3");
            Check.due("rows", Check.select(t, "a % 2 = 1"), 20);
            Check.due("two runs", t.comparisons(), 2L);
        });
        // The words stand twice in the section: first for a comparison with a constant, here for a remainder.
        doc.hold("in a DICTIONARY column d, in a DELTA column n.", () -> {
            ColumnTable t = Tables.longs(4, LONG, 1L << 50, 3, 1L << 50, 3);
            Check.due("a dictionary", t.encoding(0, 0), 2);
            due(t, "a % 2 = 1", "1 3 / 2");
            due(t, "a % 2 = 5", "/ 2");
            ColumnTable nulls = Tables.of(2, LONG);
            nulls.addRows(2);
            due(nulls, "a % 2 = 1", "/ 0");
            ColumnTable delta = ten();
            due(delta, "a % 20 = 10", "1 3 5 7 9 / 10");
            due(delta, "a % 1000 < 0", "/ 10");
        });
    }

    private static void pairs(Sentences doc) {
        doc.hold("name comparison name: one for each row in which both have values.", () -> {
            ColumnTable t = Tables.of(4, LONG, SHORT);
            t.setLong(0, 1);
            t.setLong(1, 1);
            t.addRows(2);
            t.setNull(0);
            t.addRows(1);
            t.setNull(1);
            t.addRows(1);
            t.setLong(0, 2);
            t.addRows(1);
            due(t, "a = b", "0 1 / 2");
            due(t, "a = a", "0 1 4 / 3");
            due(t, "b >= a", "0 1 / 2");
            t.setLong(1, 3);
            t.addRows(1);
            due(t, "a < b", "5 / 3");
            Tables.drop(t, "a = 1");
            due(t, "a < b", "5 / 3");
            ColumnTable deleted = Tables.of(4, LONG, LONG);
            deleted.setLong(0, 1);
            deleted.setStep(0, 1);
            deleted.setLong(1, 2);
            deleted.addRows(4);
            Tables.drop(deleted, "a = 2");
            due(deleted, "a >= b", "2 3 / 4");
        });
    }
}
