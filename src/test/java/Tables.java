import java.util.function.Consumer;
import java.util.function.Supplier;

/** Tables for the tests of single sentences, and a look at all that a table can tell. */
final class Tables {
    static final double BEYOND_LARGEST = Math.nextUp(1e9);
    private static final int MOST_ROWS_LOOKED_AT = 12;

    private Tables() {
    }

    /** Columns a, b, c .. of these types. */
    static ColumnTable of(int size, int... types) {
        ColumnTable t = new ColumnTable();
        for (int i = 0; i < types.length; i++) {
            Check.column(t, String.valueOf((char) ('a' + i)), types[i]);
        }
        t.setSegmentSize(size);
        return t;
    }

    /** A column a with a row for each value. */
    static ColumnTable longs(int size, int type, long... values) {
        ColumnTable t = of(size, type);
        addLongs(t, values);
        return t;
    }

    static void addLongs(ColumnTable t, long... values) {
        for (long value : values) {
            t.setLong(0, value);
            t.addRows(1);
        }
    }

    static ColumnTable doubles(int size, int type, double... values) {
        ColumnTable t = of(size, type);
        addDoubles(t, values);
        return t;
    }

    static void addDoubles(ColumnTable t, double... values) {
        for (double value : values) {
            t.setDouble(0, value);
            t.addRows(1);
        }
    }

    static void addNulls(ColumnTable t, int count) {
        t.setNull(0);
        t.addRows(count);
    }

    /** A LONG column a with the values 0, 1, 2 .. in as many rows. */
    static ColumnTable rising(int size, int rows) {
        ColumnTable t = of(size, 3);
        t.setLong(0, 0);
        t.setStep(0, 1);
        for (int added = 0; added < rows; added += 100) {
            t.setLong(0, added);
            t.addRows(Math.min(100, rows - added));
        }
        return t;
    }

    /** Deletes the rows that a predicate selects. */
    static int drop(ColumnTable t, String predicate) {
        Check.select(t, predicate);
        return t.delete();
    }

    /** "encoding bits units" of a column in a segment. */
    static String code(ColumnTable t, int segment, int column) {
        return t.encoding(segment, column) + " " + t.bits(segment, column) + " " + t.units(segment, column);
    }

    /** The code of column a in segment 0, which is sealed before if it is open. */
    static String sealedCode(ColumnTable t) {
        if (t.isOpen(0)) {
            t.seal();
        }
        return code(t, 0, 0);
    }

    static String selection(ColumnTable t) {
        StringBuilder result = new StringBuilder();
        for (int i = 0; i < t.selectedCount(); i++) {
            result.append(i == 0 ? "" : " ").append(t.selected(i));
        }
        return result.toString();
    }

    static String groups(ColumnTable t, int count) {
        StringBuilder result = new StringBuilder();
        for (int i = 0; i < count; i++) {
            result.append(i == 0 ? "" : "; ");
            result.append(t.groupRow(i)).append(' ').append(t.groupSize(i)).append(' ').append(t.groupSum(i));
        }
        return result.toString();
    }

    /** The number of bytes in the text buffer, which stays as it is. */
    static int buffered(ColumnTable t) {
        String fed = Check.outcome(() -> t.feed(0, 0, 0, 0, 0));
        if (!fed.endsWith("Exception")) {
            return t.trim(Integer.parseInt(fed) - 20);
        }
        // The greatest length to which it can be cut; more than 180, as twenty bytes found no room.
        for (int length = 200; length > 180; length--) {
            int wanted = length;
            if (Check.outcome(() -> t.trim(wanted)).equals(String.valueOf(wanted))) {
                return wanted;
            }
        }
        return -1;
    }

    /** The call throws, and a twin that never saw it is in the same state. */
    static void refused(String what, Class<? extends RuntimeException> want, Supplier<ColumnTable> maker,
            Consumer<ColumnTable> call) {
        refused(what, want, maker, call, twin -> { });
    }

    /** The last one does to the twin what the call that throws may change. */
    static void refused(String what, Class<? extends RuntimeException> want, Supplier<ColumnTable> maker,
            Consumer<ColumnTable> call, Consumer<ColumnTable> allowedChange) {
        ColumnTable t = maker.get();
        Check.dueThrow(what, want, () -> {
            call.accept(t);
            return "nothing thrown";
        });
        ColumnTable twin = maker.get();
        allowedChange.accept(twin);
        Check.due(what + " changes nothing", state(t), state(twin));
    }

    /** All that a table tells; its pending row is told by adding rows, so it is of no use afterwards. */
    static String state(ColumnTable t) {
        StringBuilder s = new StringBuilder();
        s.append("text ").append(buffered(t)).append(" digest ").append(t.digest());
        s.append(" error ").append(t.errorKind()).append(' ').append(t.errorPosition());
        s.append(" comparisons ").append(t.comparisons()).append(" bits ").append(t.totalBits());
        s.append(" selection ").append(selection(t)).append(" groups ");
        for (int i = 0; i <= Math.min(t.addedCount(), MOST_ROWS_LOOKED_AT); i++) {
            int group = i;
            s.append(Check.outcome(() -> t.groupRow(group))).append(' ');
            s.append(Check.outcome(() -> t.groupSize(group))).append(' ');
            s.append(Check.outcome(() -> t.groupSum(group))).append(' ');
        }
        columns(t, s);
        rows(t, s, 0);
        pending(t, s);
        return s.toString();
    }

    private static void columns(ColumnTable t, StringBuilder s) {
        s.append(" columns ");
        for (int c = 0; c < t.columnCount(); c++) {
            s.append(t.type(c)).append(' ');
            for (int segment = 0; segment < t.segmentCount(); segment++) {
                int at = segment;
                int column = c;
                s.append(Check.outcome(() -> t.units(at, column))).append(' ');
                s.append(Check.outcome(() -> t.zoneLow(at, column))).append(' ');
                s.append(Check.outcome(() -> t.zoneHigh(at, column))).append(' ');
            }
        }
    }

    private static void rows(ColumnTable t, StringBuilder s, int first) {
        s.append(" rows ");
        for (int row = first; row < Math.min(t.addedCount(), first + MOST_ROWS_LOOKED_AT); row++) {
            int at = row;
            s.append(t.isDeleted(row)).append(' ').append(Check.outcome(() -> t.segmentOf(at))).append(' ');
            for (int c = 0; c < t.columnCount(); c++) {
                int column = c;
                s.append(Check.outcome(() -> t.getLong(at, column))).append(' ');
                s.append(Check.outcome(() -> t.getDouble(at, column))).append(' ');
            }
        }
    }

    private static void pending(ColumnTable t, StringBuilder s) {
        int first = t.addedCount();
        s.append(" size ").append(Check.outcome(() -> t.setSegmentSize(3)));
        s.append(" pending ").append(Check.outcome(() -> t.addRows(3)));
        rows(t, s, first);
    }
}
