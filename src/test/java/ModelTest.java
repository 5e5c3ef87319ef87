import java.util.ArrayList;
import java.util.List;
import java.util.Random;
import java.util.function.Supplier;

/** Long runs of calls, made up from fixed seeds: the class and the model must answer alike. */
public final class ModelTest {
    /** What calls behind the 512th answer is free; the longest step makes 15. */
    private static final int CALLS = 512 - 15;
    private final Random random;
    private final ColumnTable table = new ColumnTable();
    private final Model model = new Model();
    private final List<String> story = new ArrayList<>();
    private final List<String> names = new ArrayList<>();
    private final List<Integer> types = new ArrayList<>();
    private int callsMade;
    private boolean isWrong;

    private ModelTest(long seed) {
        random = new Random(seed);
    }

    public static void main(String[] args) {
        int runs = args.length > 0 ? Integer.parseInt(args[0]) : 800;
        int first = args.length > 1 ? Integer.parseInt(args[1]) : 0;
        for (int seed = first; seed < first + runs; seed++) {
            ModelTest test = new ModelTest(seed);
            test.run();
            if (test.isWrong) {
                System.out.println("seed " + seed + ":");
                test.story.forEach(System.out::println);
                System.exit(1);
            }
        }
        System.out.println(runs + " runs alike");
    }

    private void same(String call, Supplier<Object> ours, Supplier<Object> theirs) {
        callsMade++;
        if (!isWrong) {
            String got = Check.outcome(ours);
            String want = Check.outcome(theirs);
            story.add(call + " = " + got);
            if (!got.equals(want)) {
                isWrong = true;
                story.add("    but the model answers " + want);
            }
        }
    }

    private void text(String text) {
        story.add("\"" + text + "\"");
        for (int from = 0; from < text.length(); from += 20) {
            int[] w = new int[5];
            for (int i = 0; i < 20; i++) {
                int b = from + i < text.length() ? text.charAt(from + i) & 255 : random.nextInt(256);
                w[i / 4] = w[i / 4] << 8 | b;
            }
            same("feed", () -> table.feed(w[0], w[1], w[2], w[3], w[4]), () -> model.feed(w[0], w[1], w[2], w[3], w[4]));
        }
        same("trim", () -> table.trim(text.length()), () -> model.trim(text.length()));
    }

    private void run() {
        int columns = 1 + random.nextInt(8);
        for (int i = 0; i < columns; i++) {
            addColumn(random.nextInt(6));
        }
        if (random.nextInt(5) > 0) {
            int size = random.nextInt(3) == 0 ? random.nextInt(67) : 2 + random.nextInt(9);
            same("setSegmentSize " + size, () -> table.setSegmentSize(size), () -> model.setSegmentSize(size));
        }
        while (callsMade < CALLS && !isWrong) {
            step();
        }
    }

    private void addColumn(int type) {
        String[] some = {"a", "b", "c", "ab", "abc", "in", "notes", "x", "isnull", "abcdefgh", "abcdefghi", "or", "d", "a b"};
        String name = some[random.nextInt(some.length)];
        text(name);
        same("addColumn " + type, () -> table.addColumn(type), () -> model.addColumn(type));
        if (model.columnCount() > names.size()) {
            names.add(name);
            types.add(type);
        }
    }

    private int column() {
        return random.nextInt(40) == 0 ? random.nextInt(12) - 2 : random.nextInt(names.size() + (names.isEmpty() ? 1 : 0));
    }

    private int row() {
        return random.nextInt(Math.max(1, model.addedCount()) + 1) - (random.nextInt(20) == 0 ? 1 : 0);
    }

    private int segment() {
        return random.nextInt(model.segmentCount() + 1) - (random.nextInt(20) == 0 ? 1 : 0);
    }

    private long whole() {
        long[] edges = {Long.MAX_VALUE, Long.MIN_VALUE, Long.MAX_VALUE - 3, 1L << 62, -(1L << 62), 32767, -32768, 32768,
            65535, 65536, 1000000000, -1000000000, 1000000001, 9007199254740993L, 16777217};
        switch (random.nextInt(8)) {
            case 0: return edges[random.nextInt(edges.length)];
            case 1: return random.nextLong();
            case 2: return random.nextInt(70000) - 4000;
            case 3: return random.nextInt(2);
            default: return random.nextInt(12) - 3;
        }
    }

    private double real() {
        double[] edges = {1e9, -1e9, 1000000000.0000001, 0.1, -0.0, 0.0, 1e-300, Double.MIN_VALUE, -1e-50, 16777217,
            999999999.99999999, 65535.9, 32767.9, -32768.9, Double.POSITIVE_INFINITY, Double.NEGATIVE_INFINITY};
        switch (random.nextInt(6)) {
            case 0: return edges[random.nextInt(edges.length)];
            case 1: return (random.nextDouble() - 0.5) * 2.2e9;
            case 2: return (random.nextInt(40) - 10) / 10.0;
            case 3: return random.nextDouble() * 10;
            default: return random.nextInt(9) / 2.0 - 1;
        }
    }

    private double step0() {
        double[] edges = {0, -0.0, 1, 1, 1, -1, 2, 0.5, -0.5, 1e6, -1e6, 1000000.5, 0.1, 3.7};
        return edges[random.nextInt(edges.length)];
    }

    private void step() {
        switch (random.nextInt(34)) {
            case 0: case 1: case 2: setPending(); break;
            case 3: case 4: addRows(); break;
            case 5: case 6: case 7: case 8: case 9: case 10: select(); break;
            case 11: selectAll(); break;
            case 12: case 13: readCell(); break;
            case 14: case 15: readSegment(); break;
            case 16: reorder(); break;
            case 17: if (random.nextInt(6) == 0) { same("delete", table::delete, model::delete); } break;
            case 18: case 19: change(); break;
            case 20: sort(); break;
            case 21: case 22: sums(); break;
            case 23: group(); break;
            case 24: case 25: readGroup(); break;
            case 26: same("totalBits", table::totalBits, model::totalBits); break;
            case 27: case 28: counts(); break;
            case 29: if (random.nextInt(10) == 0) { odd(); } break;
            default: same("digest", table::digest, model::digest); break;
        }
    }

    private void setPending() {
        int c = column();
        switch (random.nextInt(6)) {
            case 0: same("setNull " + c, () -> table.setNull(c), () -> model.setNull(c)); break;
            case 1: case 2:
                double v = real();
                same("setDouble " + c + " " + v, () -> table.setDouble(c, v), () -> model.setDouble(c, v));
                break;
            case 3:
                double s = step0();
                same("setStep " + c + " " + s, () -> table.setStep(c, s), () -> model.setStep(c, s));
                break;
            default:
                long w = whole();
                same("setLong " + c + " " + w, () -> table.setLong(c, w), () -> model.setLong(c, w));
                break;
        }
    }

    private void addRows() {
        int count = random.nextInt(12) == 0 ? random.nextInt(104) - 1 : 1 + random.nextInt(6);
        same("addRows " + count, () -> table.addRows(count), () -> model.addRows(count));
    }

    private void selectAll() {
        same("selectAll", table::selectAll, model::selectAll);
    }

    private void readCell() {
        int r = row();
        int c = column();
        same("isDeleted " + r, () -> table.isDeleted(r), () -> model.isDeleted(r));
        same("isNull " + r + " " + c, () -> table.isNull(r, c), () -> model.isNull(r, c));
        same("getLong " + r + " " + c, () -> table.getLong(r, c), () -> model.getLong(r, c));
        same("getDouble " + r + " " + c, () -> table.getDouble(r, c), () -> model.getDouble(r, c));
        same("getFloat " + r + " " + c, () -> table.getFloat(r, c), () -> model.getFloat(r, c));
        same("segmentOf " + r, () -> table.segmentOf(r), () -> model.segmentOf(r));
    }

    private void readSegment() {
        int s = segment();
        int c = column();
        same("segmentRows " + s, () -> table.segmentRows(s), () -> model.segmentRows(s));
        same("segmentLive " + s, () -> table.segmentLive(s), () -> model.segmentLive(s));
        same("isOpen " + s, () -> table.isOpen(s), () -> model.isOpen(s));
        same("encoding " + s + " " + c, () -> table.encoding(s, c), () -> model.encoding(s, c));
        same("bits " + s + " " + c, () -> table.bits(s, c), () -> model.bits(s, c));
        same("units " + s + " " + c, () -> table.units(s, c), () -> model.units(s, c));
        same("zoneLow " + s + " " + c, () -> table.zoneLow(s, c), () -> model.zoneLow(s, c));
        same("zoneHigh " + s + " " + c, () -> table.zoneHigh(s, c), () -> model.zoneHigh(s, c));
    }

    private void reorder() {
        int c = column();
        switch (random.nextInt(6)) {
            case 0: same("compact", table::compact, model::compact); break;
            case 1: case 2: same("recluster " + c, () -> table.recluster(c), () -> model.recluster(c)); break;
            default: same("seal", table::seal, model::seal); break;
        }
    }

    private void change() {
        int c = column();
        if (random.nextInt(3) == 0) {
            double f = random.nextInt(3) == 0 ? real() : random.nextInt(7) / 2.0 - 1.5;
            same("multiply " + c + " " + f, () -> table.multiply(c, f), () -> model.multiply(c, f));
        } else if (model.selectedCount() < 30 || random.nextInt(10) == 0) {
            same("update " + c, () -> table.update(c), () -> model.update(c));
        }
    }

    private void sort() {
        int c = column();
        boolean d = random.nextBoolean();
        same("sortSelection " + c + " " + d, () -> table.sortSelection(c, d), () -> model.sortSelection(c, d));
    }

    private void sums() {
        int c = column();
        boolean g = random.nextBoolean();
        same("extreme " + c + " " + g, () -> table.extreme(c, g), () -> model.extreme(c, g));
        same("valueCount " + c, () -> table.valueCount(c), () -> model.valueCount(c));
        same("sumLong " + c, () -> table.sumLong(c), () -> model.sumLong(c));
        same("sumDouble " + c, () -> table.sumDouble(c), () -> model.sumDouble(c));
    }

    private void group() {
        int c = column();
        int d = column();
        same("group " + c + " " + d, () -> table.group(c, d), () -> model.group(c, d));
        readGroup();
    }

    private void readGroup() {
        int g = random.nextInt(6) - 1;
        same("groupRow " + g, () -> table.groupRow(g), () -> model.groupRow(g));
        same("groupSize " + g, () -> table.groupSize(g), () -> model.groupSize(g));
        same("groupSum " + g, () -> table.groupSum(g), () -> model.groupSum(g));
    }

    private void counts() {
        same("columnCount", table::columnCount, model::columnCount);
        same("addedCount", table::addedCount, model::addedCount);
        same("rowCount", table::rowCount, model::rowCount);
        same("segmentCount", table::segmentCount, model::segmentCount);
        same("selectedCount", table::selectedCount, model::selectedCount);
        int i = random.nextInt(model.selectedCount() + 2) - 1;
        same("selected " + i, () -> table.selected(i), () -> model.selected(i));
        int c = column();
        same("type " + c, () -> table.type(c), () -> model.type(c));
    }

    private void odd() {
        switch (random.nextInt(4)) {
            case 0: addColumn(random.nextInt(8) - 1); break;
            case 1:
                int size = random.nextInt(70);
                same("setSegmentSize " + size, () -> table.setSegmentSize(size), () -> model.setSegmentSize(size));
                break;
            case 2:
                int length = random.nextInt(30) - 3;
                same("trim " + length, () -> table.trim(length), () -> model.trim(length));
                break;
            default:
                int w = random.nextInt();
                same("feed " + w, () -> table.feed(w, w, w, w, w), () -> model.feed(w, w, w, w, w));
                same("trim 0", () -> table.trim(0), () -> model.trim(0));
                break;
        }
    }

    private void select() {
        String predicate = predicate(random.nextInt(4));
        if (random.nextInt(6) == 0) {
            predicate = damaged(predicate);
        }
        if (predicate.length() > 200) {
            predicate = predicate.substring(0, 200);
        }
        text(predicate);
        same("select", table::select, model::select);
        same("errorKind", table::errorKind, model::errorKind);
        same("errorPosition", table::errorPosition, model::errorPosition);
        same("comparisons", table::comparisons, model::comparisons);
    }

    private String damaged(String predicate) {
        String[] bits = {"(", ")", "not", " and ", "or", "is", "null", " in ", "..", ".", "-", "%", "=", "<", ">", "<>", "1",
            "0", "9999999999999999999", "1.5", "a", "zz", "\u00e4", " ", "~", "not(not(not(not(", "))))"};
        StringBuilder result = new StringBuilder(predicate);
        for (int i = random.nextInt(3); i >= 0; i--) {
            int at = random.nextInt(result.length() + 1);
            if (random.nextBoolean() && at < result.length()) {
                result.delete(at, Math.min(result.length(), at + 1 + random.nextInt(5)));
            } else {
                result.insert(at, bits[random.nextInt(bits.length)]);
            }
        }
        return result.toString();
    }

    private String blank() {
        return random.nextInt(3) > 0 ? " " : random.nextInt(3) == 0 ? "  " : "";
    }

    private String predicate(int depth) {
        StringBuilder result = new StringBuilder(factor(depth));
        for (int i = random.nextInt(3); i > 0; i--) {
            result.append(random.nextBoolean() ? " and " : " or ").append(factor(depth));
        }
        return result.toString();
    }

    private String factor(int depth) {
        if (depth > 0 && random.nextInt(3) == 0) {
            return "(" + blank() + predicate(depth - 1) + ")" + blank();
        }
        if (depth > 0 && random.nextInt(4) == 0) {
            return "not " + factor(depth - 1);
        }
        return test();
    }

    private String test() {
        if (names.isEmpty() || random.nextInt(60) == 0) {
            return "zz";
        }
        int c = random.nextInt(names.size());
        String name = names.get(c);
        if (random.nextInt(7) == 0) {
            return name + " is " + (random.nextBoolean() ? "not " : "") + "null";
        }
        if (types.get(c) == 0 && random.nextInt(25) > 0) {
            return name;
        }
        String[] comparisons = {"=", "<>", "<", "<=", ">", ">="};
        String comparison = blank() + comparisons[random.nextInt(6)] + blank();
        switch (random.nextInt(6)) {
            case 0: return name + " in " + constant(c) + blank() + ".." + blank() + constant(c);
            case 1: return name + blank() + "%" + blank() + constant(c) + comparison + constant(c);
            case 2:
                int d = random.nextInt(names.size());
                if (random.nextInt(4) == 0 || types.get(d) > 0 && (types.get(d) >= 4) == (types.get(c) >= 4)) {
                    return name + comparison + names.get(d);
                }
                return name + comparison + constant(c);
            default: return name + comparison + constant(c);
        }
    }

    private String constant(int c) {
        String sign = random.nextInt(4) == 0 ? "-" + blank() : "";
        boolean isReal = types.get(c) >= 4 ? random.nextInt(30) > 0 : random.nextInt(40) == 0;
        if (!isReal) {
            String[] edges = {"9223372036854775807", "9223372036854775808", "32767", "65535", "4611686018427387904", "100000"};
            return sign + (random.nextInt(8) == 0 ? edges[random.nextInt(edges.length)] : "" + random.nextInt(10));
        }
        String[] edges = {"1000000000", "0.1", "0.00000000000001", "999999999.999999", "0.0", "1000000000.1", "0.3", "123.456"};
        return sign + (random.nextInt(6) == 0 ? edges[random.nextInt(edges.length)]
                : random.nextBoolean() ? "" + random.nextInt(5) : random.nextInt(5) + "." + random.nextInt(10));
    }
}
