import java.util.NoSuchElementException;
import java.util.function.Consumer;
import java.util.function.Supplier;

/** Section 7 of the document, sentence by sentence: exceptions; ExamplesTest has its examples. */
public final class Section7Test {
    public static void main(String[] args) throws Exception {
        Sentences doc = new Sentences("section", 7, 7);
        doc.at("section 7");
        changesNothing(doc);
        firstReason(doc);
        invalidNumbers(doc);
        doc.end();
    }

    /**
     * Columns a LONG, b DOUBLE, c BOOLEAN; segments of 2; rows: 1 0.5 t; 2 0.75 t; null null null; 3 1 f;
     * 4 2 f. Row 1 is deleted, row 4 is in the open segment; there is a selection, there are groups, the
     * latest select had an error, the text buffer is not empty and each column has a step.
     */
    private static ColumnTable rich() {
        ColumnTable t = Tables.of(2, 3, 5, 0);
        t.setLong(0, 1);
        t.setStep(0, 1);
        t.setDouble(1, 0.5);
        t.setStep(1, 0.25);
        t.setLong(2, 1);
        t.addRows(2);
        for (int c = 0; c < 3; c++) {
            t.setNull(c);
        }
        t.addRows(1);
        t.setLong(0, 3);
        t.setDouble(1, 1);
        t.setStep(1, 1);
        t.setLong(2, 0);
        t.addRows(2);
        Tables.drop(t, "a = 2");
        Check.select(t, "a > 0 and b > 0.6 or a is null");
        t.sortSelection(0, true);
        t.group(0, 1);
        Check.error(t, "a = b");
        t.feed(0x61620000, 0, 0, 0, 0);
        t.trim(2);
        return t;
    }

    /** 300 rows, all deleted, and a name in the text buffer. */
    private static ColumnTable full() {
        ColumnTable t = Tables.rising(64, 300);
        t.selectAll();
        t.delete();
        t.feed(0x71000000, 0, 0, 0, 0);
        t.trim(1);
        return t;
    }

    private static ColumnTable withText(int bytes) {
        ColumnTable t = rich();
        for (int i = 1; i <= 10; i++) {
            t.trim(Math.min(20 * (i - 1), bytes));
            t.feed(0x61616161, 0x61616161, 0x61616161, 0x61616161, 0x61616161);
        }
        t.trim(bytes);
        return t;
    }

    private static void index(String what, Consumer<ColumnTable> call) {
        Tables.refused(what, IndexOutOfBoundsException.class, Section7Test::rich, call);
    }

    private static void argument(String what, Consumer<ColumnTable> call) {
        Tables.refused(what, IllegalArgumentException.class, Section7Test::rich, call);
    }

    private static void state(String what, Supplier<ColumnTable> maker, Consumer<ColumnTable> call) {
        Tables.refused(what, IllegalStateException.class, maker, call);
    }

    private static void element(String what, Consumer<ColumnTable> call) {
        Tables.refused(what, NoSuchElementException.class, Section7Test::rich, call);
    }

    private static void arithmetic(String what, Supplier<ColumnTable> maker, Consumer<ColumnTable> call) {
        Tables.refused(what, ArithmeticException.class, maker, call);
    }

    private static void changesNothing(Sentences doc) {
        doc.hold("A method that throws an exception changes nothing,", () -> {
            Check.due("the state is told", Tables.state(rich()), Tables.state(rich()));
            textAndColumns();
            rowsAndSegments();
            selectionAndGroups();
        });
        doc.hold("except the text buffer and the results of errorKind and errorPosition, as described at the methods.", () -> {
            Consumer<ColumnTable> emptied = twin -> twin.trim(0);
            Tables.refused("addColumn, type", IllegalArgumentException.class, Section7Test::rich, t -> t.addColumn(6), emptied);
            Tables.refused("addColumn, name", IllegalArgumentException.class, () -> withText(9), t -> t.addColumn(3), emptied);
            Tables.refused("addColumn, a row", IllegalStateException.class, Section7Test::rich, t -> t.addColumn(3), emptied);
            ColumnTable t = rich();
            t.trim(0);
            Check.due("an error of another kind", Check.error(t, "a = 1.5"), "4 at 4");
            ColumnTable twin = rich();
            twin.trim(0);
            Check.due("the error of before", twin.errorKind() + " " + twin.errorPosition(), "3 4");
            Check.due("selection", Tables.selection(t), Tables.selection(twin));
            Check.due("comparisons", t.comparisons(), twin.comparisons());
            Check.due("groups", Tables.groups(t, 2), Tables.groups(twin, 2));
            Check.due("the rest, when the error is the same", Check.error(t, "a = b"), "3 at 4");
            Check.due("state", Tables.state(t), Tables.state(twin));
        });
    }

    private static void textAndColumns() {
        state("feed", () -> withText(181), t -> t.feed(0x62626262, 0x62626262, 0x62626262, 0x62626262, 0x62626262));
        argument("trim, more", t -> t.trim(3));
        argument("trim, negative", t -> t.trim(-1));
        argument("setSegmentSize", t -> t.setSegmentSize(1));
        state("setSegmentSize, rows", Section7Test::rich, t -> t.setSegmentSize(5));
        Tables.refused("setSegmentSize, no rows", IllegalArgumentException.class, () -> Tables.of(5, 3), t -> t.setSegmentSize(65));
        index("type", t -> t.type(3));
        index("setNull", t -> t.setNull(3));
        index("setLong, column", t -> t.setLong(-1, 0));
        argument("setLong, value", t -> t.setLong(2, 2));
        argument("setLong, double", t -> t.setLong(1, 1000000001));
        index("setDouble, column", t -> t.setDouble(3, 0));
        argument("setDouble, value", t -> t.setDouble(0, 2e9));
        argument("setDouble, boolean", t -> t.setDouble(2, 1));
        index("setStep, column", t -> t.setStep(3, 0));
        argument("setStep, step", t -> t.setStep(0, 1000001));
        argument("setStep, boolean", t -> t.setStep(2, 0));
    }

    private static ColumnTable withStep(int column, long value, double step) {
        ColumnTable t = rich();
        t.setLong(column, value);
        t.setStep(column, step);
        return t;
    }

    private static void rowsAndSegments() {
        argument("addRows, 0", t -> t.addRows(0));
        argument("addRows, 101", t -> t.addRows(101));
        state("addRows, no column", ColumnTable::new, t -> t.addRows(1));
        state("addRows, 301", () -> Tables.rising(64, 299), t -> t.addRows(2));
        arithmetic("addRows, long", () -> withStep(0, Long.MAX_VALUE - 3, 1), t -> t.addRows(5));
        arithmetic("addRows, double", () -> withStep(1, 999999997, 1), t -> t.addRows(5));
        index("isDeleted", t -> t.isDeleted(5));
        index("isNull", t -> t.isNull(0, 3));
        element("isNull, deleted", t -> t.isNull(1, 0));
        index("getLong", t -> t.getLong(5, 0));
        element("getLong, null", t -> t.getLong(2, 0));
        index("getDouble", t -> t.getDouble(0, -1));
        element("getDouble, deleted", t -> t.getDouble(1, 0));
        index("getFloat", t -> t.getFloat(-1, 0));
        element("getFloat, null", t -> t.getFloat(2, 1));
        state("seal", () -> Tables.rising(2, 4), t -> t.seal());
        index("recluster", t -> t.recluster(3));
        index("segmentOf", t -> t.segmentOf(5));
        element("segmentOf, deleted", t -> t.segmentOf(1));
        index("segmentRows", t -> t.segmentRows(3));
        index("segmentLive", t -> t.segmentLive(-1));
        index("isOpen", t -> t.isOpen(3));
        index("encoding", t -> t.encoding(3, 0));
        state("encoding, open", Section7Test::rich, t -> t.encoding(2, 0));
        index("bits", t -> t.bits(0, 3));
        state("bits, open", Section7Test::rich, t -> t.bits(2, 0));
        index("units", t -> t.units(-1, 0));
        state("units, open", Section7Test::rich, t -> t.units(2, 0));
        index("zoneLow", t -> t.zoneLow(0, 3));
        state("zoneLow, open", Section7Test::rich, t -> t.zoneLow(2, 0));
        index("zoneHigh", t -> t.zoneHigh(0, 3));
        state("zoneHigh, open", Section7Test::rich, t -> t.zoneHigh(2, 0));
    }

    private static void selectionAndGroups() {
        index("selected", t -> t.selected(3));
        index("sortSelection", t -> t.sortSelection(3, false));
        index("extreme", t -> t.extreme(3, false));
        Tables.refused("extreme, no value", NoSuchElementException.class, () -> Tables.rising(2, 4), t -> t.extreme(0, true));
        index("valueCount", t -> t.valueCount(3));
        index("sumLong", t -> t.sumLong(3));
        argument("sumLong, double", t -> t.sumLong(1));
        index("sumDouble", t -> t.sumDouble(-1));
        index("group", t -> t.group(3, 0));
        index("group, summed", t -> t.group(0, 3));
        state("group, no groups", () -> Tables.rising(2, 4), t -> t.groupRow(0));
        index("groupRow", t -> t.groupRow(2));
        index("groupSize", t -> t.groupSize(-1));
        index("groupSum", t -> t.groupSum(2));
        index("update", t -> t.update(3));
        index("multiply", t -> t.multiply(3, 1));
        argument("multiply, long", t -> t.multiply(0, 1));
        argument("multiply, factor", t -> t.multiply(1, 1000000001));
        // The selected values are 2, 1 and null, in this order: the first product is too large, or the second.
        arithmetic("multiply, the first product", Section7Test::rich, t -> t.multiply(1, 600000000));
        arithmetic("multiply, a later product", () -> {
            ColumnTable t = rich();
            t.sortSelection(0, false);
            return t;
        }, t -> t.multiply(1, 600000000));
    }

    private static void firstReason(Sentences doc) {
        doc.hold("If several exceptions apply, the one whose reason is named first is thrown.", () -> {
            argument(Section7Test::full, "addColumn: type before a row", t -> t.addColumn(6));
            argument(Section7Test::full, "addColumn: name before a row", t -> {
                t.trim(0);
                t.addColumn(3);
            });
            argument(Section7Test::rich, "addColumn: name before a row", t -> {
                t.trim(0);
                Check.column(t, "a b", 3);
            });
            argument(() -> Tables.of(16, 1, 1, 1, 1, 1, 1, 1, 1), "addColumn: type before 8 columns", t -> Check.column(t, "a", -1));
            argument(Section7Test::rich, "setSegmentSize: size before a row", t -> t.setSegmentSize(65));
            argument(ColumnTable::new, "addRows: count before no column", t -> t.addRows(101));
            argument(Section7Test::full, "addRows: count before 300 rows", t -> t.addRows(0));
            argument(() -> withStep(0, Long.MAX_VALUE, 1), "addRows: count before values", t -> t.addRows(101));
            thrown("addRows: 300 rows before values", IllegalStateException.class, () -> {
                ColumnTable t = Tables.rising(64, 298);
                t.setLong(0, Long.MAX_VALUE);
                return t;
            }, t -> t.addRows(3));
            indexFirst("setLong: column before value", t -> t.setLong(3, Long.MAX_VALUE));
            indexFirst("setDouble: column before value", t -> t.setDouble(3, 2e9));
            indexFirst("setStep: column before step", t -> t.setStep(3, 2e9));
            indexFirst("isNull: column before a deleted row", t -> t.isNull(1, 3));
            indexFirst("getLong: column before a deleted row", t -> t.getLong(1, 3));
            indexFirst("getDouble: column before a deleted row", t -> t.getDouble(1, -1));
            indexFirst("getFloat: column before a deleted row", t -> t.getFloat(1, 3));
            indexFirst("encoding: column before an open segment", t -> t.encoding(2, 3));
            indexFirst("bits: column before an open segment", t -> t.bits(2, -1));
            indexFirst("units: column before an open segment", t -> t.units(2, 3));
            indexFirst("zoneLow: column before an open segment", t -> t.zoneLow(2, 3));
            indexFirst("zoneHigh: column before an open segment", t -> t.zoneHigh(2, 3));
            thrown("zoneLow: open before nulls", IllegalStateException.class, Section7Test::openNulls, t -> t.zoneLow(0, 0));
            thrown("zoneHigh: open before nulls", IllegalStateException.class, Section7Test::openNulls, t -> t.zoneHigh(0, 0));
            thrown("extreme: column before no value", IndexOutOfBoundsException.class, Section7Test::openNulls,
                    t -> t.extreme(1, true));
            thrown("groupRow: no groups first", IllegalStateException.class, Section7Test::openNulls, t -> t.groupRow(-1));
            thrown("groupSize: no groups first", IllegalStateException.class, Section7Test::openNulls, t -> t.groupSize(-1));
            thrown("groupSum: no groups first", IllegalStateException.class, Section7Test::openNulls, t -> t.groupSum(300));
            indexFirst("multiply: column before factor", t -> t.multiply(3, 2e9));
            argument(Section7Test::rich, "multiply: factor before products", t -> t.multiply(1, 1000000001));
        });
    }

    private static ColumnTable openNulls() {
        ColumnTable t = Tables.of(16, 3);
        t.addRows(2);
        t.selectAll();
        return t;
    }

    private static void argument(Supplier<ColumnTable> maker, String what, Consumer<ColumnTable> call) {
        thrown(what, IllegalArgumentException.class, maker, call);
    }

    private static void indexFirst(String what, Consumer<ColumnTable> call) {
        thrown(what, IndexOutOfBoundsException.class, Section7Test::rich, call);
    }

    private static void thrown(String what, Class<? extends RuntimeException> want, Supplier<ColumnTable> maker,
            Consumer<ColumnTable> call) {
        ColumnTable t = maker.get();
        Check.dueThrow(what, want, () -> {
            call.accept(t);
            return "nothing thrown";
        });
    }

    private static void invalidNumbers(Sentences doc) {
        int[] outside = {Integer.MIN_VALUE, -1, 3, 8, 300, Integer.MAX_VALUE};
        doc.hold("\"Invalid column\" and \"invalid segment\" stand for an IndexOutOfBoundsException if there is no such column or"
                + " segment.", () -> {
            for (int at : outside) {
                indexFirst("type " + at, t -> t.type(at));
                indexFirst("setNull " + at, t -> t.setNull(at));
                indexFirst("setLong " + at, t -> t.setLong(at, 0));
                indexFirst("setDouble " + at, t -> t.setDouble(at, 0));
                indexFirst("setStep " + at, t -> t.setStep(at, 0));
                indexFirst("isNull " + at, t -> t.isNull(0, at));
                indexFirst("getLong " + at, t -> t.getLong(0, at));
                indexFirst("getDouble " + at, t -> t.getDouble(0, at));
                indexFirst("getFloat " + at, t -> t.getFloat(0, at));
                indexFirst("recluster " + at, t -> t.recluster(at));
                indexFirst("encoding " + at, t -> t.encoding(0, at));
                indexFirst("bits " + at, t -> t.bits(0, at));
                indexFirst("units " + at, t -> t.units(0, at));
                indexFirst("zoneLow " + at, t -> t.zoneLow(0, at));
                indexFirst("zoneHigh " + at, t -> t.zoneHigh(0, at));
                indexFirst("sortSelection " + at, t -> t.sortSelection(at, true));
                indexFirst("extreme " + at, t -> t.extreme(at, true));
                indexFirst("valueCount " + at, t -> t.valueCount(at));
                indexFirst("sumLong " + at, t -> t.sumLong(at));
                indexFirst("sumDouble " + at, t -> t.sumDouble(at));
                indexFirst("group " + at, t -> t.group(at, 0));
                indexFirst("group, summed " + at, t -> t.group(0, at));
                indexFirst("update " + at, t -> t.update(at));
                indexFirst("multiply " + at, t -> t.multiply(at, 1));
                indexFirst("segmentRows " + at, t -> t.segmentRows(at));
                indexFirst("segmentLive " + at, t -> t.segmentLive(at));
                indexFirst("isOpen " + at, t -> t.isOpen(at));
                indexFirst("encoding, segment " + at, t -> t.encoding(at, 0));
                indexFirst("bits, segment " + at, t -> t.bits(at, 0));
                indexFirst("units, segment " + at, t -> t.units(at, 0));
                indexFirst("zoneLow, segment " + at, t -> t.zoneLow(at, 0));
                indexFirst("zoneHigh, segment " + at, t -> t.zoneHigh(at, 0));
            }
        });
        doc.hold("\"Invalid row\" stands for an IndexOutOfBoundsException if no row with this number was added, and after that a"
                + " NoSuchElementException if it is deleted.", () -> {
            for (int row : new int[] {Integer.MIN_VALUE, -1, 5, 299, 300, Integer.MAX_VALUE}) {
                indexFirst("isDeleted " + row, t -> t.isDeleted(row));
                indexFirst("isNull " + row, t -> t.isNull(row, 0));
                indexFirst("getLong " + row, t -> t.getLong(row, 0));
                indexFirst("getDouble " + row, t -> t.getDouble(row, 0));
                indexFirst("getFloat " + row, t -> t.getFloat(row, 0));
                indexFirst("segmentOf " + row, t -> t.segmentOf(row));
            }
            Class<NoSuchElementException> element = NoSuchElementException.class;
            thrown("isNull", element, Section7Test::rich, t -> t.isNull(1, 0));
            thrown("getLong", element, Section7Test::rich, t -> t.getLong(1, 0));
            thrown("getDouble", element, Section7Test::rich, t -> t.getDouble(1, 0));
            thrown("getFloat", element, Section7Test::rich, t -> t.getFloat(1, 0));
            thrown("segmentOf", element, Section7Test::rich, t -> t.segmentOf(1));
            thrown("segmentOf, after compacting", element, () -> {
                ColumnTable t = rich();
                t.compact();
                return t;
            }, t -> t.segmentOf(1));
            Check.due("isDeleted tells it", rich().isDeleted(1), true);
        });
    }
}
