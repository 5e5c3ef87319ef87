import java.util.NoSuchElementException;

/**
 * A columnar table: rows in segments, full segments encoded column by column, predicates with
 * three-valued logic, and a selection that can be summed, grouped, sorted, updated and deleted.
 */
public final class ColumnTable {
    private static final int MOST_COLUMNS = 8;
    private static final int MOST_ROWS = 300;
    private static final int MOST_ADDED_AT_ONCE = 100;
    private static final int LONGEST_SEGMENT = 64;
    private static final int BYTES_FED = 20;
    private static final int LARGEST_REAL = 1000000000;
    private static final int LARGEST_STEP = 1000000;

    private static final int BOOLEAN = 0;
    private static final int SHORT = 1;
    private static final int CHAR = 2;
    private static final int LONG = 3;
    private static final int FLOAT = 4;
    private static final int DOUBLE = 5;

    private static final int PLAIN = 0;
    private static final int RUNS = 1;
    private static final int DICTIONARY = 2;
    private static final int DELTA = 3;

    private final Text text;
    private final Column[] columns;
    private int columnsMade;
    private final Segments segments;
    private final Sorter sorter;
    private final Encoder encoder;
    private final Parser parser;
    private final Evaluator evaluator;
    private final Groups groups;
    private final int[] picked;
    private int pickedCount;
    private final int[] spare;
    private long counted;

    public ColumnTable() {
        text = new Text();
        columns = new Column[MOST_COLUMNS];
        segments = new Segments();
        sorter = new Sorter();
        encoder = new Encoder(segments, sorter);
        parser = new Parser(columns);
        evaluator = new Evaluator(segments);
        groups = new Groups();
        picked = new int[MOST_ROWS];
        spare = new int[MOST_ROWS];
    }

    // ---- text buffer

    public int feed(int a, int b, int c, int d, int e) throws IllegalStateException {
        if (text.length > Text.MOST_BYTES - BYTES_FED) {
            throw new IllegalStateException("the text buffer would have more than 200 bytes");
        }
        text.append(a);
        text.append(b);
        text.append(c);
        text.append(d);
        text.append(e);
        return text.length;
    }

    public int trim(int length) throws IllegalArgumentException {
        if (length < 0 || length > text.length) {
            throw new IllegalArgumentException("the text buffer has no such length");
        }
        text.length = length;
        return length;
    }

    // ---- columns and the pending row

    public int addColumn(int type) throws IllegalArgumentException, IllegalStateException {
        boolean isName = text.isName();
        String name = isName ? text.whole() : "";
        text.length = 0;
        if (type < BOOLEAN || type > DOUBLE || !isName) {
            throw new IllegalArgumentException("no such type, or the text is not a name");
        }
        if (hasColumnNamed(name) || columnsMade >= MOST_COLUMNS || segments.added > 0) {
            throw new IllegalStateException("no column of this name can be added any more");
        }
        columns[columnsMade] = new Column(name, type);
        columnsMade++;
        return columnsMade - 1;
    }

    private boolean hasColumnNamed(String name) {
        for (int i = 0; i < columnsMade; i++) {
            if (columns[i].name.equals(name)) {
                return true;
            }
        }
        return false;
    }

    public int setSegmentSize(int size) throws IllegalArgumentException, IllegalStateException {
        if (size < 2 || size > LONGEST_SEGMENT) {
            throw new IllegalArgumentException("a segment has 2 to 64 rows");
        }
        if (segments.added > 0) {
            throw new IllegalStateException("a row has been added");
        }
        int former = segments.fullSize;
        segments.fullSize = size;
        return former;
    }

    public int columnCount() {
        return columnsMade;
    }

    public int type(int column) throws IndexOutOfBoundsException {
        return columnAt(column).kind;
    }

    private Column columnAt(int column) {
        if (column < 0 || column >= columnsMade) {
            throw new IndexOutOfBoundsException("no such column");
        }
        return columns[column];
    }

    public boolean setNull(int column) throws IndexOutOfBoundsException {
        Column found = columnAt(column);
        boolean wasNull = !found.filled[Column.PENDING];
        found.filled[Column.PENDING] = false;
        return wasNull;
    }

    public long setLong(int column, long value) throws IndexOutOfBoundsException, IllegalArgumentException {
        Column found = columnAt(column);
        if (!found.canTakeLong(value)) {
            throw new IllegalArgumentException("the column cannot contain this number");
        }
        found.putLong(Column.PENDING, value);
        return found.asLong(Column.PENDING);
    }

    public double setDouble(int column, double value) throws IndexOutOfBoundsException, IllegalArgumentException {
        Column found = columnAt(column);
        if (!found.canTakeDouble(value)) {
            throw new IllegalArgumentException("the column cannot contain this number");
        }
        found.putDouble(Column.PENDING, value);
        return found.asDouble(Column.PENDING);
    }

    public double setStep(int column, double step) throws IndexOutOfBoundsException, IllegalArgumentException {
        Column found = columnAt(column);
        if (found.kind == BOOLEAN || !isWithin(step, LARGEST_STEP)) {
            throw new IllegalArgumentException("the column cannot have this step");
        }
        found.step = found.isFloating ? step : (double) (long) step;
        return found.step;
    }

    // ---- rows

    public int addRows(int count) throws IllegalArgumentException, IllegalStateException, ArithmeticException {
        if (count < 1 || count > MOST_ADDED_AT_ONCE) {
            throw new IllegalArgumentException("1 to 100 rows can be added at once");
        }
        if (columnsMade == 0 || segments.added + count > MOST_ROWS) {
            throw new IllegalStateException("there is no column, or there would be more than 300 rows");
        }
        if (!canAddSteppedRows(count)) {
            throw new ArithmeticException("a value would leave the range of its type");
        }
        int first = segments.added;
        int firstChanged = segments.isLastOpen ? segments.count - 1 : segments.count;
        for (int i = 0; i < count; i++) {
            for (int c = 0; c < columnsMade; c++) {
                columns[c].fillStepped(first + i, i);
            }
            segments.appendNew();
        }
        encodeSealedFrom(firstChanged);
        return first;
    }

    private boolean canAddSteppedRows(int count) {
        for (int c = 0; c < columnsMade; c++) {
            for (int i = 0; i < count; i++) {
                if (!columns[c].canFillStepped(i)) {
                    return false;
                }
            }
        }
        return true;
    }

    private void encodeSealedFrom(int firstSegment) {
        for (int s = firstSegment; s < segments.count; s++) {
            for (int c = 0; c < columnsMade && !segments.isUnsealed(s); c++) {
                encoder.encode(columns[c], s);
            }
        }
    }

    public int addedCount() {
        return segments.added;
    }

    public int rowCount() {
        return segments.live;
    }

    public boolean isDeleted(int row) throws IndexOutOfBoundsException {
        requireAdded(row);
        return segments.gone[row];
    }

    private void requireAdded(int row) {
        if (row < 0 || row >= segments.added) {
            throw new IndexOutOfBoundsException("no such row was added");
        }
    }

    private void requireLive(int row) {
        if (segments.gone[row]) {
            throw new NoSuchElementException("the row is deleted");
        }
    }

    public boolean isNull(int row, int column) throws IndexOutOfBoundsException, java.util.NoSuchElementException {
        requireAdded(row);
        Column found = columnAt(column);
        requireLive(row);
        return !found.filled[row];
    }

    public long getLong(int row, int column) throws IndexOutOfBoundsException, java.util.NoSuchElementException {
        return columnWithValue(row, column).asLong(row);
    }

    public double getDouble(int row, int column) throws IndexOutOfBoundsException, java.util.NoSuchElementException {
        return columnWithValue(row, column).asDouble(row);
    }

    public float getFloat(int row, int column) throws IndexOutOfBoundsException, java.util.NoSuchElementException {
        return columnWithValue(row, column).asFloat(row);
    }

    private Column columnWithValue(int row, int column) {
        requireAdded(row);
        Column found = columnAt(column);
        requireLive(row);
        if (!found.filled[row]) {
            throw new NoSuchElementException("the cell is null");
        }
        return found;
    }

    // ---- segments

    public int seal() throws IllegalStateException {
        if (!segments.isLastOpen) {
            throw new IllegalStateException("no segment is open");
        }
        segments.isLastOpen = false;
        encodeSealedFrom(segments.count - 1);
        return segments.count - 1;
    }

    public int compact() {
        int count = segments.copyLive(spare);
        storeAnew(count);
        encodeSealedFrom(0);
        return segments.count;
    }

    public int recluster(int column) throws IndexOutOfBoundsException {
        Column found = columnAt(column);
        int count = segments.copyLive(spare);
        sorter.sort(spare, count, found, false);
        storeAnew(count);
        encodeSealedFrom(0);
        return segments.count;
    }

    private void storeAnew(int count) {
        segments.empty();
        for (int i = 0; i < count; i++) {
            segments.store(spare[i]);
        }
    }

    public int segmentCount() {
        return segments.count;
    }

    public int segmentOf(int row) throws IndexOutOfBoundsException, java.util.NoSuchElementException {
        requireAdded(row);
        requireLive(row);
        return segments.homes[row];
    }

    private void requireSegment(int segment) {
        if (segment < 0 || segment >= segments.count) {
            throw new IndexOutOfBoundsException("no such segment");
        }
    }

    public int segmentRows(int segment) throws IndexOutOfBoundsException {
        requireSegment(segment);
        return segments.lengthOf(segment);
    }

    public int segmentLive(int segment) throws IndexOutOfBoundsException {
        requireSegment(segment);
        return Long.bitCount(segments.liveRowsOf(segment));
    }

    public boolean isOpen(int segment) throws IndexOutOfBoundsException {
        requireSegment(segment);
        return segments.isUnsealed(segment);
    }

    private Column encodedColumn(int segment, int column) {
        requireSegment(segment);
        Column found = columnAt(column);
        if (segments.isUnsealed(segment)) {
            throw new IllegalStateException("the segment is open");
        }
        return found;
    }

    public int encoding(int segment, int column) throws IndexOutOfBoundsException, IllegalStateException {
        return encodedColumn(segment, column).codes[segment];
    }

    public long bits(int segment, int column) throws IndexOutOfBoundsException, IllegalStateException {
        return encodedColumn(segment, column).codeBits[segment];
    }

    public int units(int segment, int column) throws IndexOutOfBoundsException, IllegalStateException {
        return encodedColumn(segment, column).codeUnits[segment];
    }

    public long totalBits() {
        long total = 0;
        for (int s = 0; s < segments.count; s++) {
            for (int c = 0; c < columnsMade; c++) {
                total += segments.isUnsealed(s) ? 0 : columns[c].codeBits[s];
            }
        }
        return total;
    }

    public double zoneLow(int segment, int column)
            throws IndexOutOfBoundsException, IllegalStateException, java.util.NoSuchElementException {
        Column found = encodedColumn(segment, column);
        return zoneEnd(found, found.lowRows[segment]);
    }

    public double zoneHigh(int segment, int column)
            throws IndexOutOfBoundsException, IllegalStateException, java.util.NoSuchElementException {
        Column found = encodedColumn(segment, column);
        return zoneEnd(found, found.highRows[segment]);
    }

    private double zoneEnd(Column column, int row) {
        if (row < 0) {
            throw new NoSuchElementException("all cells are null");
        }
        return column.asDouble(row);
    }

    // ---- selection

    public int select() throws IllegalArgumentException {
        parser.scanner.cut(text);
        text.length = 0;
        Node predicate = parser.parse();
        pickedCount = 0;
        counted = 0;
        for (int s = 0; s < segments.count; s++) {
            long live = segments.liveRowsOf(s);
            if (live != 0) {
                evaluator.judge(predicate, s, live);
                pick(s, predicate.yes & live);
                counted += evaluator.counted;
            }
        }
        return pickedCount;
    }

    private void pick(int segment, long chosen) {
        int length = segments.lengthOf(segment);
        for (int i = 0; i < length && pickedCount < MOST_ROWS; i++) {
            if ((chosen >>> i & 1L) != 0) {
                picked[pickedCount] = segments.rowAt(segment, i);
                pickedCount++;
            }
        }
    }

    public int selectAll() {
        pickedCount = segments.copyLive(picked);
        return pickedCount;
    }

    public int errorKind() {
        return parser.errorKind;
    }

    public int errorPosition() {
        return parser.errorPosition;
    }

    public long comparisons() {
        return counted;
    }

    public int selectedCount() {
        return pickedCount;
    }

    public int selected(int index) throws IndexOutOfBoundsException {
        if (index < 0 || index >= pickedCount) {
            throw new IndexOutOfBoundsException("no such index in the selection");
        }
        return picked[index];
    }

    public int sortSelection(int column, boolean isDescending) throws IndexOutOfBoundsException {
        sorter.sort(picked, pickedCount, columnAt(column), isDescending);
        return pickedCount;
    }

    public int extreme(int column, boolean isGreatest)
            throws IndexOutOfBoundsException, java.util.NoSuchElementException {
        Column found = columnAt(column);
        int best = -1;
        for (int i = 0; i < pickedCount; i++) {
            int row = picked[i];
            if (found.filled[row] && (best < 0 || found.isBeyond(row, best, isGreatest))) {
                best = row;
            }
        }
        if (best < 0) {
            throw new NoSuchElementException("no selected row has a value");
        }
        return best;
    }

    public int valueCount(int column) throws IndexOutOfBoundsException {
        Column found = columnAt(column);
        int count = 0;
        for (int i = 0; i < pickedCount; i++) {
            count += found.filled[picked[i]] ? 1 : 0;
        }
        return count;
    }

    public long sumLong(int column) throws IndexOutOfBoundsException, IllegalArgumentException {
        Column found = columnAt(column);
        if (found.isFloating) {
            throw new IllegalArgumentException("the column is of a floating type");
        }
        long sum = 0;
        for (int i = 0; i < pickedCount; i++) {
            sum += found.filled[picked[i]] ? found.asLong(picked[i]) : 0;
        }
        return sum;
    }

    public double sumDouble(int column) throws IndexOutOfBoundsException {
        Column found = columnAt(column);
        double sum = 0;
        for (int i = 0; i < pickedCount; i++) {
            if (found.filled[picked[i]]) {
                sum += found.asDouble(picked[i]);
            }
        }
        return sum;
    }

    // ---- groups

    public int group(int column, int summed) throws IndexOutOfBoundsException {
        Column found = columnAt(column);
        Column added = columnAt(summed);
        int count = 0;
        for (int i = 0; i < pickedCount; i++) {
            if (found.filled[picked[i]]) {
                spare[count] = picked[i];
                count++;
            }
        }
        // The sort keeps the selection's order within a group, which first rows and sums go by.
        sorter.sort(spare, count, found, false);
        groups.make(spare, count, found, added);
        return groups.count;
    }

    public int groupRow(int group) throws IllegalStateException, IndexOutOfBoundsException {
        requireGroup(group);
        return groups.firstRows[group];
    }

    public int groupSize(int group) throws IllegalStateException, IndexOutOfBoundsException {
        requireGroup(group);
        return groups.sizes[group];
    }

    public double groupSum(int group) throws IllegalStateException, IndexOutOfBoundsException {
        requireGroup(group);
        return groups.sums[group];
    }

    private void requireGroup(int group) {
        if (!groups.isMade) {
            throw new IllegalStateException("no groups were made");
        }
        if (group < 0 || group >= groups.count) {
            throw new IndexOutOfBoundsException("no such group");
        }
    }

    // ---- changes

    public int update(int column) throws IndexOutOfBoundsException {
        Column found = columnAt(column);
        for (int i = 0; i < pickedCount; i++) {
            found.copyPending(picked[i]);
        }
        encodeAnew(found);
        return pickedCount;
    }

    public int multiply(int column, double factor)
            throws IndexOutOfBoundsException, IllegalArgumentException, ArithmeticException {
        Column found = columnAt(column);
        if (!found.isFloating || !isWithin(factor, LARGEST_REAL)) {
            throw new IllegalArgumentException("not a floating column, or the factor is too large");
        }
        if (!canMultiply(found, factor)) {
            throw new ArithmeticException("a product would be too large");
        }
        int count = 0;
        for (int i = 0; i < pickedCount; i++) {
            int row = picked[i];
            if (found.filled[row]) {
                found.reals[row] = found.product(row, factor);
                count++;
            }
        }
        encodeAnew(found);
        return count;
    }

    private boolean canMultiply(Column column, double factor) {
        for (int i = 0; i < pickedCount; i++) {
            int row = picked[i];
            if (column.filled[row] && !isWithin(column.product(row, factor), LARGEST_REAL)) {
                return false;
            }
        }
        return true;
    }

    private void encodeAnew(Column column) {
        for (int s = 0; s < segments.count; s++) {
            if (!segments.isUnsealed(s)) {
                encoder.encode(column, s);
            }
        }
    }

    public int delete() {
        int count = pickedCount;
        for (int i = 0; i < count; i++) {
            segments.remove(picked[i]);
        }
        pickedCount = 0;
        return count;
    }

    public long digest() {
        long d = 19;
        d = d * 31 + segments.added;
        d = d * 31 + segments.live;
        d = d * 31 + segments.count;
        for (int s = 0; s < segments.count; s++) {
            d = digestWithSegment(d, s);
        }
        d = d * 31 + pickedCount;
        for (int i = 0; i < pickedCount; i++) {
            d = d * 31 + picked[i];
        }
        return d;
    }

    private long digestWithSegment(long start, int segment) {
        long d = start * 31 + segments.lengthOf(segment);
        if (segments.isUnsealed(segment)) {
            return d * 31 + 1;
        }
        d = d * 31;
        for (int c = 0; c < columnsMade; c++) {
            d = d * 31 + columns[c].codes[segment];
            d = d * 31 + columns[c].codeBits[segment];
        }
        return d;
    }

    private static boolean isWithin(double value, int limit) {
        return value >= -limit && value <= limit;
    }

    /** The bytes that were fed and not yet used. */
    private static final class Text {
        static final int MOST_BYTES = 200;
        static final int LONGEST_NAME = 8;

        final int[] bytes = new int[MOST_BYTES];
        int length;

        void append(int word) {
            for (int shift = 24; shift >= 0 && length < MOST_BYTES; shift -= 8) {
                bytes[length] = word >>> shift & 255;
                length++;
            }
        }

        boolean isName() {
            if (length < 1 || length > LONGEST_NAME) {
                return false;
            }
            for (int i = 0; i < length; i++) {
                if (!Scanner.isLetter(bytes[i])) {
                    return false;
                }
            }
            return Scanner.wordToken(this, 0, length) == Scanner.NAME;
        }

        String whole() {
            StringBuilder result = new StringBuilder();
            for (int i = 0; i < length; i++) {
                result.append((char) bytes[i]);
            }
            return result.toString();
        }

        boolean reads(int from, int to, String word) {
            if (from < 0 || to > length || to - from != word.length()) {
                return false;
            }
            for (int i = from; i < to; i++) {
                if (bytes[i] != word.charAt(i - from)) {
                    return false;
                }
            }
            return true;
        }
    }

    /** The cells of one column, by row number, and how each sealed segment encodes them. */
    private static final class Column {
        /** The pending row's cell stands behind those of all rows. */
        static final int PENDING = MOST_ROWS;

        final String name;
        final int kind;
        final boolean isFloating;
        final boolean[] filled = new boolean[MOST_ROWS + 1];
        final long[] wholes = new long[MOST_ROWS + 1];
        final double[] reals = new double[MOST_ROWS + 1];
        double step;

        final int[] codes = new int[MOST_ROWS];
        final int[] codeBits = new int[MOST_ROWS];
        final int[] codeUnits = new int[MOST_ROWS];
        final boolean[] rising = new boolean[MOST_ROWS];
        /** A row with the least value of each segment, and one with the greatest; -1 without values. */
        final int[] lowRows = new int[MOST_ROWS];
        final int[] highRows = new int[MOST_ROWS];

        Column(String name, int kind) {
            this.name = name;
            this.kind = kind;
            isFloating = kind == FLOAT || kind == DOUBLE;
        }

        int width() {
            switch (kind) {
                case BOOLEAN: return 1;
                case SHORT: return 16;
                case CHAR: return 16;
                case FLOAT: return 32;
                default: return 64;
            }
        }

        boolean isInteger() {
            return kind == SHORT || kind == CHAR || kind == LONG;
        }

        boolean canTakeLong(long value) {
            switch (kind) {
                case BOOLEAN: return value == 0 || value == 1;
                case SHORT: return value >= -32768 && value <= 32767;
                case CHAR: return value >= 0 && value <= 65535;
                case LONG: return true;
                default: return value >= -LARGEST_REAL && value <= LARGEST_REAL;
            }
        }

        boolean canTakeDouble(double value) {
            if (kind == BOOLEAN || !isWithin(value, LARGEST_REAL)) {
                return false;
            }
            return isFloating || canTakeLong((long) value);
        }

        void putLong(int cell, long value) {
            filled[cell] = true;
            if (kind == FLOAT) {
                reals[cell] = (float) value;
            } else if (kind == DOUBLE) {
                reals[cell] = (double) value;
            } else {
                wholes[cell] = value;
            }
        }

        void putDouble(int cell, double value) {
            filled[cell] = true;
            if (isFloating) {
                reals[cell] = narrow(value);
            } else {
                wholes[cell] = (long) value;
            }
        }

        private double narrow(double value) {
            return kind == FLOAT ? (double) (float) value : value;
        }

        void copyPending(int row) {
            filled[row] = filled[PENDING];
            wholes[row] = wholes[PENDING];
            reals[row] = reals[PENDING];
        }

        boolean canFillStepped(int i) {
            if (!filled[PENDING]) {
                return true;
            }
            if (isFloating) {
                return isWithin(steppedReal(i), LARGEST_REAL);
            }
            long sum = steppedWhole(i);
            boolean isWrapped = step < 0 ? sum > wholes[PENDING] : sum < wholes[PENDING];
            return !isWrapped && canTakeLong(sum);
        }

        void fillStepped(int row, int i) {
            filled[row] = filled[PENDING];
            wholes[row] = steppedWhole(i);
            reals[row] = steppedReal(i);
        }

        private long steppedWhole(int i) {
            return wholes[PENDING] + i * (long) step;
        }

        private double steppedReal(int i) {
            // Without a step the sum would turn -0 into 0.
            return step == 0 ? reals[PENDING] : narrow(reals[PENDING] + i * step);
        }

        double product(int row, double factor) {
            return narrow(reals[row] * factor);
        }

        long asLong(int cell) {
            return isFloating ? (long) reals[cell] : wholes[cell];
        }

        double asDouble(int cell) {
            return isFloating ? reals[cell] : (double) wholes[cell];
        }

        float asFloat(int cell) {
            return isFloating ? (float) reals[cell] : (float) wholes[cell];
        }

        /** Null first, then the values in ascending order. */
        int compareCells(int a, int b) {
            if (!filled[a] || !filled[b]) {
                return (filled[a] ? 1 : 0) - (filled[b] ? 1 : 0);
            }
            return isFloating ? orderOfReals(reals[a], reals[b]) : Long.compare(wholes[a], wholes[b]);
        }

        boolean isBeyond(int row, int other, boolean isGreater) {
            int order = compareCells(row, other);
            return isGreater ? order > 0 : order < 0;
        }

        private static int orderOfReals(double a, double b) {
            if (a != b) {
                return a < b ? -1 : 1;
            }
            if (a != 0) {
                return 0;
            }
            // Only the sign of the infinite quotient tells -0 from 0.
            double signA = 1 / a;
            double signB = 1 / b;
            return signA < signB ? -1 : signA > signB ? 1 : 0;
        }
    }

    /** Which row stands where: the storage order, its segments, and the deleted rows. */
    private static final class Segments {
        final int[] order = new int[MOST_ROWS];
        /** Where each segment starts in the order; behind the last one, where it ends. */
        final int[] starts = new int[MOST_ROWS + 1];
        final int[] homes = new int[MOST_ROWS];
        final boolean[] gone = new boolean[MOST_ROWS];
        int count;
        boolean isLastOpen;
        int fullSize = 16;
        int added;
        int live;

        void appendNew() {
            if (added < MOST_ROWS) {
                store(added);
                added++;
                live++;
            }
        }

        void store(int row) {
            if (!isLastOpen) {
                starts[count + 1] = starts[count];
                count++;
                isLastOpen = true;
            }
            order[starts[count]] = row;
            starts[count]++;
            homes[row] = count - 1;
            isLastOpen = lengthOf(count - 1) < fullSize;
        }

        void empty() {
            count = 0;
            isLastOpen = false;
        }

        void remove(int row) {
            if (!gone[row]) {
                gone[row] = true;
                live--;
            }
        }

        boolean isUnsealed(int segment) {
            return isLastOpen && segment == count - 1;
        }

        int lengthOf(int segment) {
            return starts[segment + 1] - starts[segment];
        }

        int rowAt(int segment, int index) {
            return order[starts[segment] + index];
        }

        /** The rows of a segment that are not deleted, a bit each: no segment has more than 64. */
        long liveRowsOf(int segment) {
            long result = 0;
            int length = lengthOf(segment);
            for (int i = 0; i < length; i++) {
                result |= gone[rowAt(segment, i)] ? 0L : 1L << i;
            }
            return result;
        }

        int copyLive(int[] target) {
            int copied = 0;
            for (int i = 0; i < starts[count] && copied < target.length; i++) {
                if (!gone[order[i]]) {
                    target[copied] = order[i];
                    copied++;
                }
            }
            return copied;
        }
    }

    /** Sorts rows by their cells in a column; rows with equal cells keep their order. */
    private static final class Sorter {
        private final int[] merged = new int[MOST_ROWS];

        void sort(int[] rows, int count, Column column, boolean isDescending) {
            for (int width = 1; width < count; width *= 2) {
                for (int from = 0; from < count; from += 2 * width) {
                    int middle = Math.min(from + width, count);
                    int to = Math.min(middle + width, count);
                    merge(rows, from, middle, to, column, isDescending);
                }
                System.arraycopy(merged, 0, rows, 0, count);
            }
        }

        private void merge(int[] rows, int from, int middle, int to, Column column, boolean isDescending) {
            int left = from;
            int right = middle;
            for (int i = from; i < to; i++) {
                boolean takesRight = left >= middle;
                if (!takesRight && right < to) {
                    int order = column.compareCells(rows[right], rows[left]);
                    takesRight = isDescending ? order > 0 : order < 0;
                }
                merged[i] = rows[takesRight ? right : left];
                left += takesRight ? 0 : 1;
                right += takesRight ? 1 : 0;
            }
        }
    }

    /** Finds the encoding with the fewest bits for a column of a segment, and its zone. */
    private static final class Encoder {
        private final Segments segments;
        private final Sorter sorter;
        private final int[] sorted = new int[LONGEST_SEGMENT];
        private int bestCode;
        private int bestBits;
        private int bestUnits;
        private boolean isRising;

        Encoder(Segments segments, Sorter sorter) {
            this.segments = segments;
            this.sorter = sorter;
        }

        void encode(Column column, int segment) {
            int n = segments.lengthOf(segment);
            System.arraycopy(segments.order, segments.starts[segment], sorted, 0, n);
            sorter.sort(sorted, n, column, false);
            int nulls = nullsIn(column, n);
            column.lowRows[segment] = nulls < n ? sorted[nulls] : -1;
            column.highRows[segment] = nulls < n ? sorted[n - 1] : -1;
            chooseCode(column, segment, n, nulls);
            column.codes[segment] = bestCode;
            column.codeBits[segment] = bestBits;
            column.codeUnits[segment] = bestUnits;
            column.rising[segment] = bestCode == DELTA && isRising;
        }

        private void chooseCode(Column column, int segment, int n, int nulls) {
            int width = column.width();
            int nullBit = nulls > 0 ? 1 : 0;
            int runs = runsIn(column, segment, n);
            int different = differentValuesIn(column, n, nulls);
            bestCode = PLAIN;
            bestBits = n * (width + nullBit);
            bestUnits = n;
            offer(RUNS, runs * (width + nullBit + binaryDigits(n)), runs);
            offer(DICTIONARY, different * width + n * binaryDigits(different + nullBit - 1), different);
            if (column.isInteger() && nulls == 0 && n >= 2) {
                offerDelta(column, segment, n);
            }
        }

        private void offer(int code, int bitsTaken, int unitsTaken) {
            if (bitsTaken < bestBits) {
                bestCode = code;
                bestBits = bitsTaken;
                bestUnits = unitsTaken;
            }
        }

        private void offerDelta(Column column, int segment, int n) {
            long least = Long.MAX_VALUE;
            long greatest = Long.MIN_VALUE;
            for (int i = 1; i < n; i++) {
                long before = column.wholes[segments.rowAt(segment, i - 1)];
                long value = column.wholes[segments.rowAt(segment, i)];
                long difference = value - before;
                if (value >= before ? difference < 0 : difference >= 0) {
                    return;
                }
                least = Math.min(least, difference);
                greatest = Math.max(greatest, difference);
            }
            long spread = greatest - least;
            if (spread >= 0) {
                isRising = least >= 0;
                offer(DELTA, 2 * column.width() + (n - 1) * binaryDigits(spread), n);
            }
        }

        private int nullsIn(Column column, int n) {
            int nulls = 0;
            for (int i = 0; i < n; i++) {
                nulls += column.filled[sorted[i]] ? 0 : 1;
            }
            return nulls;
        }

        private int differentValuesIn(Column column, int n, int nulls) {
            int different = 0;
            for (int i = nulls; i < n; i++) {
                if (i == nulls || column.compareCells(sorted[i - 1], sorted[i]) != 0) {
                    different++;
                }
            }
            return different;
        }

        private int runsIn(Column column, int segment, int n) {
            int runs = 0;
            for (int i = 0; i < n; i++) {
                if (i == 0 || column.compareCells(segments.rowAt(segment, i - 1), segments.rowAt(segment, i)) != 0) {
                    runs++;
                }
            }
            return runs;
        }

        private static int binaryDigits(long number) {
            int digits = 0;
            for (int i = 0; i < 63 && number >>> i != 0; i++) {
                digits++;
            }
            return digits;
        }
    }

    /** Cuts a text into tokens and hands them out one at a time. */
    private static final class Scanner {
        static final int END = 0;
        static final int NO_TOKEN = 1;
        static final int NAME = 2;
        static final int NUMBER = 3;
        static final int AND = 4;
        static final int OR = 5;
        static final int NOT = 6;
        static final int IS = 7;
        static final int NULL = 8;
        static final int IN = 9;
        static final int OPENING = 10;
        static final int CLOSING = 11;
        static final int PERCENT = 12;
        static final int DOTS = 13;
        static final int MINUS = 14;
        static final int EQUAL = 15;
        static final int UNEQUAL = 16;
        static final int LESS = 17;
        static final int AT_MOST = 18;
        static final int GREATER = 19;
        static final int AT_LEAST = 20;

        final Text text = new Text();
        private final int[] tokens = new int[Text.MOST_BYTES + 1];
        private final int[] starts = new int[Text.MOST_BYTES + 1];
        private final int[] ends = new int[Text.MOST_BYTES + 1];
        private int next;
        int token;
        int start;
        int end;

        /** Cuts the whole text, which may have bytes with which no token begins: they are tokens, too. */
        void cut(Text source) {
            System.arraycopy(source.bytes, 0, text.bytes, 0, source.length);
            text.length = source.length;
            int count = 0;
            int at = endOfBlanks(0);
            while (at < text.length && count < Text.MOST_BYTES) {
                readToken(count, at);
                at = endOfBlanks(ends[count]);
                count++;
            }
            tokens[count] = END;
            starts[count] = text.length;
            ends[count] = text.length;
            next = 0;
        }

        void advance() {
            if (next < tokens.length) {
                token = tokens[next];
                start = starts[next];
                end = ends[next];
                next++;
            }
        }

        private void readToken(int index, int at) {
            int first = text.bytes[at];
            starts[index] = at;
            if (isLetter(first)) {
                ends[index] = endOfLetters(at);
                tokens[index] = wordToken(text, at, ends[index]);
            } else if (isDigit(first)) {
                ends[index] = endOfNumber(at);
                tokens[index] = NUMBER;
            } else {
                tokens[index] = symbolToken(first, byteAt(at + 1));
                ends[index] = at + (isTwoBytesLong(tokens[index]) ? 2 : 1);
            }
        }

        private int byteAt(int position) {
            return position < text.length ? text.bytes[position] : -1;
        }

        private int endOfBlanks(int from) {
            int to = from;
            while (to < text.length && text.bytes[to] == ' ') {
                to++;
            }
            return to;
        }

        private int endOfLetters(int from) {
            int to = from;
            while (to < text.length && isLetter(text.bytes[to])) {
                to++;
            }
            return to;
        }

        private int endOfDigits(int from) {
            int to = from;
            while (to < text.length && isDigit(text.bytes[to])) {
                to++;
            }
            return to;
        }

        private int endOfNumber(int from) {
            int to = endOfDigits(from);
            boolean hasPoint = byteAt(to) == '.' && isDigit(byteAt(to + 1));
            return hasPoint ? endOfDigits(to + 1) : to;
        }

        static boolean isLetter(int b) {
            return b >= 'a' && b <= 'z';
        }

        static boolean isDigit(int b) {
            return b >= '0' && b <= '9';
        }

        static int wordToken(Text text, int from, int to) {
            if (text.reads(from, to, "and")) {
                return AND;
            }
            if (text.reads(from, to, "or")) {
                return OR;
            }
            if (text.reads(from, to, "not")) {
                return NOT;
            }
            if (text.reads(from, to, "is")) {
                return IS;
            }
            if (text.reads(from, to, "null")) {
                return NULL;
            }
            return text.reads(from, to, "in") ? IN : NAME;
        }

        private static int symbolToken(int first, int second) {
            switch (first) {
                case '(': return OPENING;
                case ')': return CLOSING;
                case '%': return PERCENT;
                case '-': return MINUS;
                case '=': return EQUAL;
                case '.': return second == '.' ? DOTS : NO_TOKEN;
                case '<': return second == '=' ? AT_MOST : second == '>' ? UNEQUAL : LESS;
                case '>': return second == '=' ? AT_LEAST : GREATER;
                default: return NO_TOKEN;
            }
        }

        private static boolean isTwoBytesLong(int symbol) {
            return symbol == DOTS || symbol == UNEQUAL || symbol == AT_MOST || symbol == AT_LEAST;
        }

        boolean isComparison() {
            return token >= EQUAL && token <= AT_LEAST;
        }
    }

    /** Reads a text as a predicate; the first error ends it, with its kind and position kept. */
    private static final class Parser {
        static final int WRONG_TOKEN = 1;
        static final int WRONG_NAME = 2;
        static final int WRONG_TYPE = 3;
        static final int WRONG_NUMBER = 4;
        static final int DEEPEST = 20;
        static final int MOST_DIGITS = 15;

        private final Column[] columns;
        final Scanner scanner = new Scanner();
        private int unclosed;
        private long whole;
        private double real;
        int errorKind;
        int errorPosition = -1;

        Parser(Column[] columns) {
            this.columns = columns;
        }

        /** Reads the text that the scanner has cut last. */
        Node parse() {
            errorKind = 0;
            errorPosition = -1;
            unclosed = 0;
            scanner.advance();
            Node root = predicate(1);
            demand(scanner.token == Scanner.END, WRONG_TOKEN, scanner.start);
            return root;
        }

        private void demand(boolean holds, int kind, int position) {
            if (!holds) {
                errorKind = kind;
                errorPosition = position;
                throw new IllegalArgumentException("the text is not a predicate");
            }
        }

        private Node predicate(int depth) {
            Node result = conjunction(depth);
            if (scanner.token == Scanner.OR) {
                result = new Node(Node.ANY, result);
                Node last = result.first;
                for (int i = 0; i < Text.MOST_BYTES && scanner.token == Scanner.OR; i++) {
                    scanner.advance();
                    last.next = conjunction(depth);
                    last = last.next;
                }
            }
            return result;
        }

        private Node conjunction(int depth) {
            Node result = factor(depth);
            if (scanner.token == Scanner.AND) {
                result = new Node(Node.ALL, result);
                Node last = result.first;
                for (int i = 0; i < Text.MOST_BYTES && scanner.token == Scanner.AND; i++) {
                    scanner.advance();
                    last.next = factor(depth);
                    last = last.next;
                }
            }
            return result;
        }

        private Node factor(int depth) {
            if (scanner.token == Scanner.NOT) {
                demand(depth < DEEPEST, WRONG_TOKEN, scanner.start);
                scanner.advance();
                return new Node(Node.NEGATION, factor(depth + 1));
            }
            if (scanner.token == Scanner.OPENING) {
                demand(depth < DEEPEST, WRONG_TOKEN, scanner.start);
                scanner.advance();
                return enclosed(depth + 1);
            }
            demand(scanner.token == Scanner.NAME, WRONG_TOKEN, scanner.start);
            return test();
        }

        private Node enclosed(int depth) {
            unclosed++;
            Node result = predicate(depth);
            demand(scanner.token == Scanner.CLOSING, WRONG_TOKEN, scanner.start);
            unclosed--;
            scanner.advance();
            return result;
        }

        private Node test() {
            int position = scanner.start;
            Column column = namedColumn();
            int token = scanner.token;
            if (token == Scanner.IS) {
                return nullTest(column);
            }
            if (token == Scanner.IN || token == Scanner.PERCENT || scanner.isComparison()) {
                demand(column.kind != BOOLEAN, WRONG_TYPE, position);
                scanner.advance();
                return token == Scanner.IN ? rangeTest(column)
                        : token == Scanner.PERCENT ? remainderTest(column)
                        : scanner.token == Scanner.NAME ? pairTest(column, token)
                        : constantTest(column, token);
            }
            demand(canFollowTest(), WRONG_TOKEN, scanner.start);
            demand(column.kind == BOOLEAN, WRONG_TYPE, position);
            return new Node(Node.FLAG, column);
        }

        private boolean canFollowTest() {
            switch (scanner.token) {
                case Scanner.AND: return true;
                case Scanner.OR: return true;
                case Scanner.CLOSING: return unclosed > 0;
                case Scanner.END: return unclosed == 0;
                default: return false;
            }
        }

        private Column namedColumn() {
            Column found = null;
            for (int i = 0; i < columns.length && columns[i] != null; i++) {
                if (scanner.text.reads(scanner.start, scanner.end, columns[i].name)) {
                    found = columns[i];
                }
            }
            demand(found != null, WRONG_NAME, scanner.start);
            scanner.advance();
            return found;
        }

        private Node nullTest(Column column) {
            scanner.advance();
            boolean isNegated = scanner.token == Scanner.NOT;
            if (isNegated) {
                scanner.advance();
            }
            demand(scanner.token == Scanner.NULL, WRONG_TOKEN, scanner.start);
            scanner.advance();
            Node result = new Node(Node.NULLNESS, column);
            return isNegated ? new Node(Node.NEGATION, result) : result;
        }

        private Node constantTest(Column column, int comparison) {
            Node result = new Node(Node.BOUNDS, column);
            result.comparison = comparison;
            readConstant(column, false);
            takeConstant(result);
            return result;
        }

        private Node rangeTest(Column column) {
            Node result = new Node(Node.BOUNDS, column);
            result.comparison = Scanner.IN;
            readConstant(column, false);
            result.lowWhole = whole;
            result.lowReal = real;
            demand(scanner.token == Scanner.DOTS, WRONG_TOKEN, scanner.start);
            scanner.advance();
            readConstant(column, false);
            result.highWhole = whole;
            result.highReal = real;
            return result;
        }

        private Node remainderTest(Column column) {
            Node result = new Node(Node.REMAINDER, column);
            readConstant(column, true);
            result.divisorWhole = whole;
            result.divisorReal = real;
            result.comparison = scanner.token;
            demand(scanner.isComparison(), WRONG_TOKEN, scanner.start);
            scanner.advance();
            readConstant(column, false);
            takeConstant(result);
            return result;
        }

        private Node pairTest(Column column, int comparison) {
            int position = scanner.start;
            Column other = namedColumn();
            boolean isSameKind = other.isFloating == column.isFloating && other.kind != BOOLEAN;
            demand(isSameKind, WRONG_TYPE, position);
            Node result = new Node(Node.PAIR, column);
            result.comparison = comparison;
            result.other = other;
            return result;
        }

        private void takeConstant(Node test) {
            test.lowWhole = whole;
            test.lowReal = real;
            test.highWhole = whole;
            test.highReal = real;
        }

        private void readConstant(Column column, boolean isDivisor) {
            boolean isNegative = scanner.token == Scanner.MINUS;
            if (isNegative) {
                scanner.advance();
            }
            demand(scanner.token == Scanner.NUMBER, WRONG_TOKEN, scanner.start);
            boolean isAllowed = column.isFloating ? readReal(column, isNegative) : readWhole(isNegative);
            boolean isZero = column.isFloating ? real == 0 : whole == 0;
            demand(isAllowed && !(isDivisor && isZero), WRONG_NUMBER, scanner.start);
            scanner.advance();
        }

        private boolean readWhole(boolean isNegative) {
            // Negative numbers reach further, so the digits are gathered below 0.
            long value = 0;
            for (int i = scanner.start; i < scanner.end; i++) {
                int digit = scanner.text.bytes[i] - '0';
                if (scanner.text.bytes[i] == '.' || value < (Long.MIN_VALUE + digit) / 10) {
                    return false;
                }
                value = value * 10 - digit;
            }
            whole = isNegative ? value : -value;
            return isNegative || value != Long.MIN_VALUE;
        }

        private boolean readReal(Column column, boolean isNegative) {
            long number = 0;
            long scale = 1;
            int digits = 0;
            boolean isBehindPoint = false;
            for (int i = scanner.start; i < scanner.end; i++) {
                if (scanner.text.bytes[i] == '.') {
                    isBehindPoint = true;
                    continue;
                }
                digits++;
                if (digits > MOST_DIGITS) {
                    return false;
                }
                number = number * 10 + (scanner.text.bytes[i] - '0');
                scale = isBehindPoint ? scale * 10 : scale;
            }
            // Both are exact doubles (15 digits at most), so the quotient is the nearest double.
            double quotient = (double) number / (double) scale;
            double nearest = column.kind == FLOAT ? (double) (float) quotient : quotient;
            real = isNegative ? -nearest : nearest;
            // What 15 digits can tell above 10^9 is above it by 10^-5 or more, which no rounding hides.
            return quotient <= LARGEST_REAL;
        }
    }

    /** A part of a predicate: a junction or negation of parts, or a test of a row. */
    private static final class Node {
        static final int ANY = 0;
        static final int ALL = 1;
        static final int NEGATION = 2;
        static final int FLAG = 3;
        static final int NULLNESS = 4;
        static final int BOUNDS = 5;
        static final int REMAINDER = 6;
        static final int PAIR = 7;
        private static final int MOST_DOUBLINGS = 1000;

        final int kind;
        final Node first;
        Node next;
        final Column column;
        Column other;
        int comparison;
        long lowWhole;
        double lowReal;
        long highWhole;
        double highReal;
        long divisorWhole;
        double divisorReal;
        /** The rows of the latest segment for which it was true, and those for which it was false. */
        long yes;
        long no;

        Node(int kind, Node first) {
            this.kind = kind;
            this.first = first;
            column = null;
        }

        Node(int kind, Column column) {
            this.kind = kind;
            this.column = column;
            first = null;
            other = column;
        }

        boolean isKnown(int row) {
            return kind == NULLNESS || column.filled[row] && other.filled[row];
        }

        boolean holds(int row) {
            switch (kind) {
                case FLAG: return column.wholes[row] != 0;
                case NULLNESS: return !column.filled[row];
                case PAIR: return agrees(orderTo(row, other.wholes[row], other.reals[row]));
                case REMAINDER: return agrees(orderOfRemainder(row));
                default: return isInside(row);
            }
        }

        private boolean isInside(int row) {
            if (comparison == Scanner.IN) {
                return orderTo(row, lowWhole, lowReal) >= 0 && orderTo(row, highWhole, highReal) <= 0;
            }
            return agrees(orderTo(row, lowWhole, lowReal));
        }

        private boolean agrees(int order) {
            switch (comparison) {
                case Scanner.EQUAL: return order == 0;
                case Scanner.UNEQUAL: return order != 0;
                case Scanner.LESS: return order < 0;
                case Scanner.AT_MOST: return order <= 0;
                case Scanner.GREATER: return order > 0;
                default: return order >= 0;
            }
        }

        /** Compares the value of a row with one of the numbers; 0 and -0 are equal here. */
        int orderTo(int row, long whole, double real) {
            if (!column.isFloating) {
                return Long.compare(column.wholes[row], whole);
            }
            double value = column.reals[row];
            return value < real ? -1 : value > real ? 1 : 0;
        }

        private int orderOfRemainder(int row) {
            if (!column.isFloating) {
                return divisorWhole == 0 ? 0 : Long.compare(column.wholes[row] % divisorWhole, lowWhole);
            }
            double value = column.reals[row];
            double rest = remainder(value < 0 ? -value : value, divisorReal < 0 ? -divisorReal : divisorReal);
            double signed = value < 0 ? -rest : rest;
            return signed < lowReal ? -1 : signed > lowReal ? 1 : 0;
        }

        /** Long division; doubling, halving and each of the differences are exact in doubles. */
        private static double remainder(double value, double divisor) {
            double part = divisor;
            for (int i = 0; i < MOST_DOUBLINGS && part + part <= value; i++) {
                part = part + part;
            }
            double rest = value;
            for (int i = 0; i <= MOST_DOUBLINGS && part >= divisor; i++) {
                rest = rest >= part ? rest - part : rest;
                part = part / 2;
            }
            return rest;
        }

        /** Whether all numbers between the values of two rows give the same result. */
        boolean isSameBetween(int lowRow, int highRow) {
            if (isOrdering()) {
                return agrees(orderTo(lowRow, lowWhole, lowReal)) == agrees(orderTo(highRow, lowWhole, lowReal));
            }
            boolean isNowhere = column.isFloating ? lowReal > highReal : lowWhole > highWhole;
            boolean isApart = orderTo(lowRow, highWhole, highReal) > 0 || orderTo(highRow, lowWhole, lowReal) < 0;
            boolean isAround = orderTo(lowRow, lowWhole, lowReal) >= 0 && orderTo(highRow, highWhole, highReal) <= 0;
            return isNowhere || isApart || isAround;
        }

        private boolean isOrdering() {
            return comparison == Scanner.LESS || comparison == Scanner.AT_MOST
                    || comparison == Scanner.GREATER || comparison == Scanner.AT_LEAST;
        }
    }

    /** Evaluates a predicate in one segment and counts the comparisons that its encodings take. */
    private static final class Evaluator {
        private final Segments segments;
        private int segment;
        private int length;
        private long live;
        int counted;

        Evaluator(Segments segments) {
            this.segments = segments;
        }

        /** Puts down, in the nodes, for which rows of the segment they are true or false. */
        void judge(Node root, int newSegment, long liveRows) {
            segment = newSegment;
            length = segments.lengthOf(newSegment);
            live = liveRows;
            counted = 0;
            judgeNode(root);
        }

        /** The parser refuses more than 20 nested factors, so the nodes are some 40 deep at most. */
        private void judgeNode(Node node) {
            if (node.first == null) {
                judgeTest(node);
            } else if (node.kind == Node.NEGATION) {
                judgeNode(node.first);
                node.yes = node.first.no;
                node.no = node.first.yes;
            } else {
                judgeJunction(node);
            }
        }

        private void judgeJunction(Node node) {
            boolean isAll = node.kind == Node.ALL;
            judgeNode(node.first);
            node.yes = node.first.yes;
            node.no = node.first.no;
            for (Node part = node.first.next; part != null; part = part.next) {
                long settled = isAll ? node.no : node.yes;
                if ((settled & live) == live) {
                    break;
                }
                judgeNode(part);
                node.yes = isAll ? node.yes & part.yes : node.yes | part.yes;
                node.no = isAll ? node.no | part.no : node.no & part.no;
            }
        }

        private void judgeTest(Node test) {
            judgeRows(test);
            int known = Long.bitCount(test.yes | test.no);
            if (test.kind == Node.BOUNDS) {
                counted += costOfBounds(test, known);
            } else if (test.kind == Node.REMAINDER) {
                counted += costOfScan(test.column, known);
            } else if (test.kind == Node.PAIR) {
                counted += known;
            }
        }

        private void judgeRows(Node test) {
            test.yes = 0;
            test.no = 0;
            for (int i = 0; i < length; i++) {
                int row = segments.rowAt(segment, i);
                if (test.isKnown(row)) {
                    boolean holds = test.holds(row);
                    test.yes |= holds ? 1L << i : 0L;
                    test.no |= holds ? 0L : 1L << i;
                }
            }
        }

        private int costOfBounds(Node test, int values) {
            Column column = test.column;
            if (values == 0 || segments.isUnsealed(segment)) {
                return values;
            }
            if (test.isSameBetween(column.lowRows[segment], column.highRows[segment])) {
                return 0;
            }
            return column.rising[segment] ? costOfSearches(test) : costOfScan(column, values);
        }

        private int costOfScan(Column column, int values) {
            if (segments.isUnsealed(segment)) {
                return values;
            }
            switch (column.codes[segment]) {
                case RUNS: return runsWithValue(column);
                case DICTIONARY: return column.codeUnits[segment];
                case DELTA: return length;
                default: return values;
            }
        }

        private int runsWithValue(Column column) {
            int runs = 0;
            for (int i = 0; i < length; i++) {
                int row = segments.rowAt(segment, i);
                boolean starts = i == 0 || column.compareCells(segments.rowAt(segment, i - 1), row) != 0;
                runs += starts && column.filled[row] ? 1 : 0;
            }
            return runs;
        }

        private int costOfSearches(Node test) {
            switch (test.comparison) {
                case Scanner.LESS: return looksFor(test, false);
                case Scanner.AT_LEAST: return looksFor(test, false);
                case Scanner.AT_MOST: return looksFor(test, true);
                case Scanner.GREATER: return looksFor(test, true);
                default: return looksFor(test, false) + looksFor(test, true);
            }
        }

        /** A binary search: for a value greater than the high constant, or at least the low one. */
        private int looksFor(Node test, boolean isGreater) {
            long whole = isGreater ? test.highWhole : test.lowWhole;
            int low = 0;
            int high = length;
            int looks = 0;
            while (low < high && looks < LONGEST_SEGMENT) {
                int middle = (low + high) / 2;
                int order = test.orderTo(segments.rowAt(segment, middle), whole, 0);
                boolean isFound = isGreater ? order > 0 : order >= 0;
                high = isFound ? middle : high;
                low = isFound ? low : middle + 1;
                looks++;
            }
            return looks;
        }
    }

    /** The groups of the latest call of group, as they were then. */
    private static final class Groups {
        final int[] firstRows = new int[MOST_ROWS];
        final int[] sizes = new int[MOST_ROWS];
        final double[] sums = new double[MOST_ROWS];
        boolean isMade;
        int count;

        /** The rows come sorted by their values, which none of them lacks. */
        void make(int[] rows, int rowsGiven, Column column, Column summed) {
            isMade = true;
            count = 0;
            for (int i = 0; i < rowsGiven; i++) {
                if (i == 0 || column.compareCells(rows[i - 1], rows[i]) != 0) {
                    open(rows[i]);
                }
                sizes[count - 1]++;
                if (summed.filled[rows[i]]) {
                    sums[count - 1] += summed.asDouble(rows[i]);
                }
            }
        }

        private void open(int firstRow) {
            firstRows[count] = firstRow;
            sizes[count] = 0;
            sums[count] = 0;
            count++;
        }
    }
}
