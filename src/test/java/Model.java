import java.math.BigDecimal;
import java.math.BigInteger;
import java.util.ArrayDeque;
import java.util.ArrayList;
import java.util.Arrays;
import java.util.Collections;
import java.util.Comparator;
import java.util.Deque;
import java.util.LinkedHashSet;
import java.util.List;
import java.util.NoSuchElementException;
import java.util.Objects;
import java.util.TreeMap;

/**
 * The document told a second time, in other words and with the whole Java library: cells are objects,
 * numbers are big, predicates are read by a table of states. ModelTest compares the class with it.
 */
final class Model {
    private static final double LIMIT = 1e9;
    private static final int[] WIDTHS = {1, 16, 16, 64, 32, 64};
    private static final List<String> WORDS = List.of("and", "or", "not", "is", "null", "in");
    /** The order of section 6; Double's own order has -0 below 0. */
    private static final Comparator<Object> CELLS = (a, b) -> {
        if (a == null || b == null) {
            return Boolean.compare(a != null, b != null);
        }
        if (a instanceof Boolean) {
            return ((Boolean) a).compareTo((Boolean) b);
        }
        return a instanceof Long ? ((Long) a).compareTo((Long) b) : ((Double) a).compareTo((Double) b);
    };

    private static final class Segment {
        final List<Integer> rows = new ArrayList<>();
        boolean open = true;
    }

    private static final class Group {
        int row;
        int size;
        double sum;
    }

    private static final class Code {
        int kind;
        long bits;
        int units;
        boolean rising;
    }

    private String text = "";
    private final List<String> names = new ArrayList<>();
    private final List<Integer> types = new ArrayList<>();
    private final List<Object> pending = new ArrayList<>();
    private final List<Double> steps = new ArrayList<>();
    private final List<Object[]> rows = new ArrayList<>();
    private final List<Boolean> deleted = new ArrayList<>();
    private List<Segment> segments = new ArrayList<>();
    private List<Integer> selection = new ArrayList<>();
    private List<Group> groups;
    private int size = 16;
    private int kind;
    private int position = -1;
    private long comparisons;

    int feed(int a, int b, int c, int d, int e) {
        if (text.length() + 20 > 200) {
            throw new IllegalStateException();
        }
        for (int word : new int[] {a, b, c, d, e}) {
            for (int i = 3; i >= 0; i--) {
                text += (char) ((word >> (8 * i)) & 0xff);
            }
        }
        return text.length();
    }

    int trim(int length) {
        if (length < 0 || length > text.length()) {
            throw new IllegalArgumentException();
        }
        text = text.substring(0, length);
        return length;
    }

    int addColumn(int type) {
        String name = text;
        text = "";
        if (type < 0 || type > 5 || !name.matches("[a-z]{1,8}") || WORDS.contains(name)) {
            throw new IllegalArgumentException();
        }
        if (names.contains(name) || names.size() == 8 || !rows.isEmpty()) {
            throw new IllegalStateException();
        }
        names.add(name);
        types.add(type);
        pending.add(null);
        steps.add(0.0);
        return names.size() - 1;
    }

    int setSegmentSize(int newSize) {
        if (newSize < 2 || newSize > 64) {
            throw new IllegalArgumentException();
        }
        if (!rows.isEmpty()) {
            throw new IllegalStateException();
        }
        int former = size;
        size = newSize;
        return former;
    }

    int columnCount() {
        return names.size();
    }

    int type(int column) {
        return types.get(Objects.checkIndex(column, names.size()));
    }

    private boolean isReal(int column) {
        return type(column) >= 4;
    }

    boolean setNull(int column) {
        type(column);
        return pending.set(column, null) == null;
    }

    private static boolean small(double v) {
        return Math.abs(v) <= LIMIT;
    }

    private static boolean inRange(int type, BigInteger v) {
        String[] low = {"0", "-32768", "0", "-9223372036854775808", "-1000000000", "-1000000000"};
        String[] high = {"1", "32767", "65535", "9223372036854775807", "1000000000", "1000000000"};
        return v.compareTo(new BigInteger(low[type])) >= 0 && v.compareTo(new BigInteger(high[type])) <= 0;
    }

    long setLong(int column, long value) {
        int type = type(column);
        if (!inRange(type, BigInteger.valueOf(value))) {
            throw new IllegalArgumentException();
        }
        Object cell = type == 0 ? (Object) (value == 1)
                : type == 4 ? (Object) (double) new BigDecimal(value).floatValue()
                : type == 5 ? (Object) (double) value : (Object) value;
        pending.set(column, cell);
        return asLong(cell);
    }

    double setDouble(int column, double value) {
        int type = type(column);
        if (type == 0 || !small(value)) {
            throw new IllegalArgumentException();
        }
        if (type < 4 && !inRange(type, new BigDecimal(value).toBigInteger())) {
            throw new IllegalArgumentException();
        }
        Object cell = type == 4 ? (Object) (double) (float) value
                : type == 5 ? (Object) value : (Object) new BigDecimal(value).toBigInteger().longValueExact();
        pending.set(column, cell);
        return asDouble(cell);
    }

    double setStep(int column, double step) {
        int type = type(column);
        if (type == 0 || !(Math.abs(step) <= 1000000)) {
            throw new IllegalArgumentException();
        }
        steps.set(column, type < 4 ? new BigDecimal(step).toBigInteger().doubleValue() : step);
        return steps.get(column);
    }

    private static long asLong(Object cell) {
        if (cell instanceof Boolean) {
            return (Boolean) cell ? 1 : 0;
        }
        return cell instanceof Long ? (Long) cell : new BigDecimal((Double) cell).toBigInteger().longValueExact();
    }

    private static double asDouble(Object cell) {
        if (cell instanceof Boolean) {
            return (Boolean) cell ? 1 : 0;
        }
        return cell instanceof Long ? new BigDecimal((Long) cell).doubleValue() : (Double) cell;
    }

    int addRows(int count) {
        if (count < 1 || count > 100) {
            throw new IllegalArgumentException();
        }
        if (names.isEmpty() || rows.size() + count > 300) {
            throw new IllegalStateException();
        }
        List<Object[]> added = new ArrayList<>();
        for (int i = 0; i < count; i++) {
            Object[] row = new Object[names.size()];
            for (int c = 0; c < names.size(); c++) {
                row[c] = stepped(pending.get(c), steps.get(c), types.get(c), i);
            }
            added.add(row);
        }
        int first = rows.size();
        for (Object[] row : added) {
            rows.add(row);
            deleted.add(false);
            segments = store(segments, rows.size() - 1);
        }
        return first;
    }

    private static Object stepped(Object cell, double step, int type, int i) {
        if (cell == null || step == 0) {
            return cell;
        }
        if (cell instanceof Long) {
            BigInteger sum = BigInteger.valueOf((Long) cell).add(BigInteger.valueOf((long) step * i));
            if (!inRange(type, sum)) {
                throw new ArithmeticException();
            }
            return sum.longValueExact();
        }
        double product = (double) i * step;
        double sum = (Double) cell + product;
        sum = type == 4 ? (float) sum : sum;
        if (!small(sum)) {
            throw new ArithmeticException();
        }
        return sum;
    }

    private List<Segment> store(List<Segment> into, int row) {
        if (into.isEmpty() || !into.get(into.size() - 1).open) {
            into.add(new Segment());
        }
        Segment last = into.get(into.size() - 1);
        last.rows.add(row);
        last.open = last.rows.size() < size;
        return into;
    }

    int addedCount() {
        return rows.size();
    }

    int rowCount() {
        return Collections.frequency(deleted, false);
    }

    boolean isDeleted(int row) {
        return deleted.get(Objects.checkIndex(row, rows.size()));
    }

    private Object cell(int row, int column) {
        boolean gone = isDeleted(row);
        type(column);
        if (gone) {
            throw new NoSuchElementException();
        }
        return rows.get(row)[column];
    }

    private Object value(int row, int column) {
        Object cell = cell(row, column);
        if (cell == null) {
            throw new NoSuchElementException();
        }
        return cell;
    }

    boolean isNull(int row, int column) {
        return cell(row, column) == null;
    }

    long getLong(int row, int column) {
        return asLong(value(row, column));
    }

    double getDouble(int row, int column) {
        return asDouble(value(row, column));
    }

    float getFloat(int row, int column) {
        Object cell = value(row, column);
        return cell instanceof Long ? new BigDecimal((Long) cell).floatValue() : (float) asDouble(cell);
    }

    int seal() {
        if (segments.isEmpty() || !segments.get(segments.size() - 1).open) {
            throw new IllegalStateException();
        }
        segments.get(segments.size() - 1).open = false;
        return segments.size() - 1;
    }

    private List<Integer> liveRows() {
        List<Integer> result = new ArrayList<>();
        for (Segment segment : segments) {
            for (int row : segment.rows) {
                if (!deleted.get(row)) {
                    result.add(row);
                }
            }
        }
        return result;
    }

    private int storeAll(List<Integer> order) {
        List<Segment> anew = new ArrayList<>();
        for (int row : order) {
            store(anew, row);
        }
        segments = anew;
        return segments.size();
    }

    int compact() {
        return storeAll(liveRows());
    }

    int recluster(int column) {
        type(column);
        List<Integer> order = liveRows();
        order.sort((a, b) -> CELLS.compare(rows.get(a)[column], rows.get(b)[column]));
        return storeAll(order);
    }

    int segmentCount() {
        return segments.size();
    }

    int segmentOf(int row) {
        if (isDeleted(row)) {
            throw new NoSuchElementException();
        }
        int s = 0;
        while (!segments.get(s).rows.contains(row)) {
            s++;
        }
        return s;
    }

    private Segment segment(int segment) {
        return segments.get(Objects.checkIndex(segment, segments.size()));
    }

    int segmentRows(int segment) {
        return segment(segment).rows.size();
    }

    int segmentLive(int segment) {
        return (int) segment(segment).rows.stream().filter(row -> !deleted.get(row)).count();
    }

    boolean isOpen(int segment) {
        return segment(segment).open;
    }

    private List<Object> cells(Segment segment, int column) {
        List<Object> result = new ArrayList<>();
        for (int row : segment.rows) {
            result.add(rows.get(row)[column]);
        }
        return result;
    }

    private Code code(int segment, int column) {
        Segment found = segment(segment);
        type(column);
        if (found.open) {
            throw new IllegalStateException();
        }
        return codeOf(cells(found, column), types.get(column));
    }

    private static int digits(long number) {
        return number == 0 ? 0 : Long.toBinaryString(number).length();
    }

    private static Code codeOf(List<Object> cells, int type) {
        int n = cells.size();
        int w = WIDTHS[type];
        int u = cells.contains(null) ? 1 : 0;
        int r = 1;
        for (int i = 1; i < n; i++) {
            r += Objects.equals(cells.get(i), cells.get(i - 1)) ? 0 : 1;
        }
        LinkedHashSet<Object> different = new LinkedHashSet<>(cells);
        different.remove(null);
        int d = different.size();
        long[] bits = {(long) n * (w + u), (long) r * (w + u + digits(n)), (long) d * w + (long) n * digits(d + u - 1), -1};
        int[] units = {n, r, d, n};
        Code best = new Code();
        if (type >= 1 && type <= 3 && u == 0 && n >= 2) {
            List<BigInteger> differences = new ArrayList<>();
            for (int i = 1; i < n; i++) {
                differences.add(BigInteger.valueOf((Long) cells.get(i)).subtract(BigInteger.valueOf((Long) cells.get(i - 1))));
            }
            BigInteger m = Collections.min(differences);
            BigInteger greatest = Collections.max(differences);
            BigInteger spread = greatest.subtract(m);
            if (m.bitLength() < 64 && greatest.bitLength() < 64 && spread.bitLength() < 64) {
                bits[3] = 2L * w + (long) (n - 1) * spread.bitLength();
                best.rising = m.signum() >= 0;
            }
        }
        for (int k = 1; k < 4; k++) {
            if (bits[k] >= 0 && bits[k] < bits[best.kind]) {
                best.kind = k;
            }
        }
        best.bits = bits[best.kind];
        best.units = units[best.kind];
        best.rising &= best.kind == 3;
        return best;
    }

    int encoding(int segment, int column) {
        return code(segment, column).kind;
    }

    long bits(int segment, int column) {
        return code(segment, column).bits;
    }

    int units(int segment, int column) {
        return code(segment, column).units;
    }

    long totalBits() {
        long total = 0;
        for (int s = 0; s < segments.size(); s++) {
            for (int c = 0; c < names.size(); c++) {
                total += segments.get(s).open ? 0 : bits(s, c);
            }
        }
        return total;
    }

    private List<Object> sortedValues(List<Object> cells) {
        List<Object> values = new ArrayList<>(cells);
        values.removeIf(Objects::isNull);
        values.sort(CELLS);
        return values;
    }

    double zoneLow(int segment, int column) {
        code(segment, column);
        List<Object> values = sortedValues(cells(segments.get(segment), column));
        if (values.isEmpty()) {
            throw new NoSuchElementException();
        }
        return asDouble(values.get(0));
    }

    double zoneHigh(int segment, int column) {
        zoneLow(segment, column);
        List<Object> values = sortedValues(cells(segments.get(segment), column));
        return asDouble(values.get(values.size() - 1));
    }

    // ---- predicates

    private static final class Fault extends RuntimeException {
        private static final long serialVersionUID = 1;
        final int kind;
        final int position;

        Fault(int kind, int position) {
            this.kind = kind;
            this.position = position;
        }
    }

    private static final class Test {
        String form = "flag";
        int column;
        int other;
        String comparison = "";
        final List<BigDecimal> numbers = new ArrayList<>();
    }

    private static final class Tree {
        final String operator;
        final Tree left;
        final Tree right;
        final Test test;

        Tree(String operator, Tree left, Tree right, Test test) {
            this.operator = operator;
            this.left = left;
            this.right = right;
            this.test = test;
        }
    }

    /** Reads token by token: a state tells what can come next, a stack which "(" and not are not over. */
    private final class Reader {
        private final String source;
        private int at;
        private String state = "factor";
        private final Deque<String> nesting = new ArrayDeque<>();
        private final Deque<Tree> trees = new ArrayDeque<>();
        private final Deque<String> operators = new ArrayDeque<>();
        private Test test;
        private int namePosition;
        private boolean minus;

        Reader(String source) {
            this.source = source;
        }

        private String nextToken() {
            while (at < source.length() && source.charAt(at) == ' ') {
                at++;
            }
            java.util.regex.Matcher m = java.util.regex.Pattern
                    .compile("[a-z]+|[0-9]+(?:\\.[0-9]+)?|\\.\\.|<=|<>|>=|[()%=<>-]").matcher(source).region(at, source.length());
            return m.lookingAt() ? m.group() : at == source.length() ? "" : "?";
        }

        Tree read() {
            while (true) {
                String token = nextToken();
                accept(token);
                if (token.isEmpty()) {
                    break;
                }
                at += token.length();
            }
            reduce(0);
            return trees.pop();
        }

        private Fault wrong() {
            return new Fault(1, at);
        }

        private boolean isComparison(String token) {
            return List.of("=", "<>", "<", "<=", ">", ">=").contains(token);
        }

        private boolean isName(String token) {
            return token.matches("[a-z]+") && !WORDS.contains(token);
        }

        private boolean isNumber(String token) {
            return token.matches("[0-9].*");
        }

        private int column(String token) {
            if (!names.contains(token)) {
                throw new Fault(2, at);
            }
            return names.indexOf(token);
        }

        private void accept(String token) {
            switch (state) {
                case "factor": factor(token); break;
                case "name": behindName(token); break;
                case "is":
                    if (token.equals("not")) {
                        test.form = "filled";
                        state = "is not";
                        break;
                    }
                    test.form = "null";
                    require(token.equals("null"));
                    finish();
                    break;
                case "is not": require(token.equals("null")); finish(); break;
                case "dots": require(token.equals("..")); state = "last"; break;
                case "% comparison":
                    require(isComparison(token));
                    test.comparison = token;
                    state = "last";
                    break;
                case "first": constant(token, "dots"); break;
                case "divisor": constant(token, "% comparison"); break;
                case "last": constant(token, "end"); break;
                case "operand":
                    if (isName(token)) {
                        second(token);
                    } else {
                        test.form = "constant";
                        state = "last";
                        constant(token, "end");
                    }
                    break;
                default: behindFactor(token); break;
            }
        }

        private void require(boolean fits) {
            if (!fits) {
                throw wrong();
            }
        }

        private void factor(String token) {
            if (token.equals("(") || token.equals("not")) {
                require(nesting.size() + 2 <= 20);
                nesting.push(token);
                operators.push(token);
                return;
            }
            require(isName(token));
            test = new Test();
            test.column = column(token);
            namePosition = at;
            state = "name";
        }

        private boolean canFollow(String token) {
            boolean unclosed = nesting.contains("(");
            return token.equals("and") || token.equals("or") || token.equals(")") && unclosed || token.isEmpty() && !unclosed;
        }

        private void behindName(String token) {
            int type = types.get(test.column);
            if (token.equals("is")) {
                state = "is";
            } else if (token.equals("in") || token.equals("%") || isComparison(token)) {
                if (type == 0) {
                    throw new Fault(3, namePosition);
                }
                test.form = token.equals("in") ? "range" : token.equals("%") ? "remainder" : "pair";
                test.comparison = token;
                state = token.equals("in") ? "first" : token.equals("%") ? "divisor" : "operand";
            } else {
                require(canFollow(token));
                if (type != 0) {
                    throw new Fault(3, namePosition);
                }
                finish();
                behindFactor(token);
            }
        }

        private void second(String token) {
            test.other = column(token);
            int type = types.get(test.other);
            if (type == 0 || (type >= 4) != isReal(test.column)) {
                throw new Fault(3, at);
            }
            finish();
        }

        private void constant(String token, String next) {
            if (token.equals("-") && !minus) {
                minus = true;
                return;
            }
            require(isNumber(token));
            test.numbers.add(number(token));
            minus = false;
            state = next;
            if (next.equals("end")) {
                finish();
            }
        }

        private BigDecimal number(String token) {
            BigDecimal exact = new BigDecimal(minus ? "-" + token : token);
            boolean allowed = !(state.equals("divisor") && exact.signum() == 0);
            if (isReal(test.column)) {
                allowed &= token.replace(".", "").length() <= 15 && exact.abs().compareTo(new BigDecimal(1000000000)) <= 0;
            } else {
                allowed &= !token.contains(".") && exact.toBigInteger().bitLength() < 64;
            }
            if (!allowed) {
                throw new Fault(4, at);
            }
            if (!isReal(test.column)) {
                return exact;
            }
            double nearest = Double.parseDouble(token);
            nearest = types.get(test.column) == 4 ? (float) nearest : nearest;
            return new BigDecimal(minus ? -nearest : nearest);
        }

        private void finish() {
            trees.push(new Tree("test", null, null, test));
            state = "behind";
            closeNots();
        }

        private void closeNots() {
            while ("not".equals(nesting.peek())) {
                nesting.pop();
                reduceTop();
            }
        }

        private void behindFactor(String token) {
            require(canFollow(token));
            if (token.equals(")")) {
                reduce(0);
                operators.pop();
                nesting.pop();
                closeNots();
            } else if (!token.isEmpty()) {
                reduce(token.equals("or") ? 1 : 2);
                operators.push(token);
                state = "factor";
            }
        }

        private int strength(String operator) {
            return operator.equals("or") ? 1 : operator.equals("and") ? 2 : operator.equals("not") ? 3 : -1;
        }

        private void reduce(int least) {
            while (!operators.isEmpty() && strength(operators.peek()) >= Math.max(least, 1)) {
                reduceTop();
            }
        }

        private void reduceTop() {
            String operator = operators.pop();
            Tree right = trees.pop();
            Tree left = operator.equals("not") ? null : trees.pop();
            trees.push(new Tree(operator, left, right, null));
        }
    }

    private static BigDecimal exact(Object cell) {
        return cell instanceof Long ? new BigDecimal((Long) cell) : new BigDecimal((Double) cell);
    }

    private static boolean agrees(String comparison, int order) {
        switch (comparison) {
            case "=": return order == 0;
            case "<>": return order != 0;
            case "<": return order < 0;
            case "<=": return order <= 0;
            case ">": return order > 0;
            default: return order >= 0;
        }
    }

    private static boolean agrees(Test test, BigDecimal value) {
        if (test.form.equals("range")) {
            return value.compareTo(test.numbers.get(0)) >= 0 && value.compareTo(test.numbers.get(1)) <= 0;
        }
        if (test.form.equals("remainder")) {
            // BigDecimal's remainder, too, is that of a quotient rounded toward 0.
            return agrees(test.comparison, value.remainder(test.numbers.get(0)).compareTo(test.numbers.get(1)));
        }
        return agrees(test.comparison, value.compareTo(test.numbers.get(0)));
    }

    private Boolean meaning(Test test, Object[] row) {
        Object cell = row[test.column];
        switch (test.form) {
            case "null": return cell == null;
            case "filled": return cell != null;
            case "flag": return (Boolean) cell;
            case "pair":
                if (cell == null || row[test.other] == null) {
                    return null;
                }
                return agrees(test.comparison, exact(cell).compareTo(exact(row[test.other])));
            default: return cell == null ? null : (Boolean) agrees(test, exact(cell));
        }
    }

    private Boolean[] evaluate(Tree tree, Segment segment) {
        int n = segment.rows.size();
        Boolean[] result = new Boolean[n];
        if (tree.operator.equals("test")) {
            for (int i = 0; i < n; i++) {
                result[i] = meaning(tree.test, rows.get(segment.rows.get(i)));
            }
            comparisons += cost(tree.test, segment);
            return result;
        }
        if (tree.operator.equals("not")) {
            Boolean[] right = evaluate(tree.right, segment);
            for (int i = 0; i < n; i++) {
                result[i] = right[i] == null ? null : (Boolean) !right[i];
            }
            return result;
        }
        Boolean decisive = tree.operator.equals("or");
        Boolean[] left = evaluate(tree.left, segment);
        boolean decided = true;
        for (int i = 0; i < n; i++) {
            decided &= deleted.get(segment.rows.get(i)) || decisive.equals(left[i]);
        }
        if (decided) {
            return left;
        }
        Boolean[] right = evaluate(tree.right, segment);
        for (int i = 0; i < n; i++) {
            result[i] = decisive.equals(left[i]) || decisive.equals(right[i]) ? decisive
                    : left[i] == null || right[i] == null ? null : (Boolean) !decisive;
        }
        return result;
    }

    private long cost(Test test, Segment segment) {
        List<Object> cells = cells(segment, test.column);
        long values = cells.size() - Collections.frequency(cells, null);
        if (test.form.equals("pair")) {
            return segment.rows.stream().filter(row -> rows.get(row)[test.column] != null && rows.get(row)[test.other] != null).count();
        }
        if (!List.of("constant", "range", "remainder").contains(test.form) || values == 0) {
            return 0;
        }
        if (segment.open) {
            return values;
        }
        Code code = codeOf(cells, types.get(test.column));
        if (!test.form.equals("remainder")) {
            if (isUniform(test, cells)) {
                return 0;
            }
            if (code.rising) {
                return searches(test, cells);
            }
        }
        switch (code.kind) {
            case 1:
                long runs = 0;
                for (int i = 0; i < cells.size(); i++) {
                    runs += cells.get(i) != null && (i == 0 || !cells.get(i).equals(cells.get(i - 1))) ? 1 : 0;
                }
                return runs;
            case 2: return code.units;
            case 3: return cells.size();
            default: return values;
        }
    }

    /** Tries the ends of the zone, the constants in it, and a number between each two of these. */
    private boolean isUniform(Test test, List<Object> cells) {
        List<Object> values = sortedValues(cells);
        BigDecimal low = exact(values.get(0));
        BigDecimal high = exact(values.get(values.size() - 1));
        List<BigDecimal> tried = new ArrayList<>(test.numbers);
        tried.removeIf(number -> number.compareTo(low) < 0 || number.compareTo(high) > 0);
        tried.addAll(Arrays.asList(low, high));
        Collections.sort(tried);
        for (int i = tried.size() - 1; i > 0; i--) {
            tried.add(tried.get(i).add(tried.get(i - 1)).divide(new BigDecimal(2)));
        }
        return tried.stream().map(number -> agrees(test, number)).distinct().count() == 1;
    }

    private long searches(Test test, List<Object> cells) {
        BigDecimal first = test.numbers.get(0);
        BigDecimal last = test.numbers.get(test.numbers.size() - 1);
        long atLeast = search(cells, value -> value.compareTo(first) >= 0);
        long greater = search(cells, value -> value.compareTo(last) > 0);
        switch (test.comparison) {
            case "<": case ">=": return atLeast;
            case "<=": case ">": return greater;
            default: return atLeast + greater;
        }
    }

    private static long search(List<Object> cells, java.util.function.Predicate<BigDecimal> isSearched) {
        long looks = 0;
        int low = 0;
        int high = cells.size();
        while (low < high) {
            int mid = (low + high) / 2;
            looks++;
            if (isSearched.test(exact(cells.get(mid)))) {
                high = mid;
            } else {
                low = mid + 1;
            }
        }
        return looks;
    }

    int select() {
        String source = text;
        text = "";
        kind = 0;
        position = -1;
        Tree tree;
        try {
            tree = new Reader(source).read();
        } catch (Fault fault) {
            kind = fault.kind;
            position = fault.position;
            throw new IllegalArgumentException();
        }
        comparisons = 0;
        List<Integer> found = new ArrayList<>();
        for (Segment segment : segments) {
            if (segment.rows.stream().allMatch(deleted::get)) {
                continue;
            }
            Boolean[] result = evaluate(tree, segment);
            for (int i = 0; i < result.length; i++) {
                int row = segment.rows.get(i);
                if (!deleted.get(row) && Boolean.TRUE.equals(result[i])) {
                    found.add(row);
                }
            }
        }
        selection = found;
        return found.size();
    }

    int selectAll() {
        selection = liveRows();
        return selection.size();
    }

    int errorKind() {
        return kind;
    }

    int errorPosition() {
        return position;
    }

    long comparisons() {
        return comparisons;
    }

    int selectedCount() {
        return selection.size();
    }

    int selected(int index) {
        return selection.get(Objects.checkIndex(index, selection.size()));
    }

    int sortSelection(int column, boolean isDescending) {
        type(column);
        Comparator<Object> order = isDescending ? CELLS.reversed() : CELLS;
        selection.sort((a, b) -> order.compare(rows.get(a)[column], rows.get(b)[column]));
        return selection.size();
    }

    private List<Object> selectedValues(int column) {
        type(column);
        List<Object> result = new ArrayList<>();
        for (int row : selection) {
            if (rows.get(row)[column] != null) {
                result.add(rows.get(row)[column]);
            }
        }
        return result;
    }

    int extreme(int column, boolean isGreatest) {
        List<Object> values = selectedValues(column);
        if (values.isEmpty()) {
            throw new NoSuchElementException();
        }
        Object best = isGreatest ? Collections.max(values, CELLS) : Collections.min(values, CELLS);
        for (int row : selection) {
            if (best.equals(rows.get(row)[column])) {
                return row;
            }
        }
        throw new AssertionError();
    }

    int valueCount(int column) {
        return selectedValues(column).size();
    }

    long sumLong(int column) {
        if (isReal(column)) {
            throw new IllegalArgumentException();
        }
        BigInteger sum = BigInteger.ZERO;
        for (Object value : selectedValues(column)) {
            sum = sum.add(BigInteger.valueOf(asLong(value)));
        }
        return sum.longValue();
    }

    double sumDouble(int column) {
        double sum = 0;
        for (Object value : selectedValues(column)) {
            sum = sum + asDouble(value);
        }
        return sum;
    }

    int group(int column, int summed) {
        type(column);
        type(summed);
        TreeMap<Object, Group> found = new TreeMap<>(CELLS);
        for (int row : selection) {
            Object value = rows.get(row)[column];
            if (value != null) {
                Group group = found.computeIfAbsent(value, v -> new Group());
                group.row = group.size == 0 ? row : group.row;
                group.size++;
                Object cell = rows.get(row)[summed];
                group.sum = cell == null ? group.sum : group.sum + asDouble(cell);
            }
        }
        groups = new ArrayList<>(found.values());
        return groups.size();
    }

    private Group groupAt(int group) {
        if (groups == null) {
            throw new IllegalStateException();
        }
        return groups.get(Objects.checkIndex(group, groups.size()));
    }

    int groupRow(int group) {
        return groupAt(group).row;
    }

    int groupSize(int group) {
        return groupAt(group).size;
    }

    double groupSum(int group) {
        return groupAt(group).sum;
    }

    int update(int column) {
        type(column);
        for (int row : selection) {
            rows.get(row)[column] = pending.get(column);
        }
        return selection.size();
    }

    int multiply(int column, double factor) {
        if (!isReal(column) || !small(factor)) {
            throw new IllegalArgumentException();
        }
        List<Double> products = new ArrayList<>();
        for (Object value : selectedValues(column)) {
            double product = (Double) value * factor;
            product = types.get(column) == 4 ? (float) product : product;
            if (!small(product)) {
                throw new ArithmeticException();
            }
            products.add(product);
        }
        int next = 0;
        for (int row : selection) {
            if (rows.get(row)[column] != null) {
                rows.get(row)[column] = products.get(next++);
            }
        }
        return products.size();
    }

    int delete() {
        for (int row : selection) {
            deleted.set(row, true);
        }
        int count = selection.size();
        selection = new ArrayList<>();
        return count;
    }

    long digest() {
        List<Long> numbers = new ArrayList<>(List.of((long) addedCount(), (long) rowCount(), (long) segments.size()));
        for (int s = 0; s < segments.size(); s++) {
            numbers.add((long) segmentRows(s));
            numbers.add(isOpen(s) ? 1L : 0L);
            for (int c = 0; c < names.size() && !isOpen(s); c++) {
                numbers.add((long) encoding(s, c));
                numbers.add(bits(s, c));
            }
        }
        numbers.add((long) selection.size());
        for (int row : selection) {
            numbers.add((long) row);
        }
        BigInteger d = BigInteger.valueOf(19);
        for (long number : numbers) {
            d = d.multiply(BigInteger.valueOf(31)).add(BigInteger.valueOf(number));
        }
        return d.longValue();
    }
}
