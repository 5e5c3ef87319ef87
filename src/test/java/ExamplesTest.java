import java.lang.reflect.InvocationTargetException;
import java.lang.reflect.Method;
import java.nio.file.Files;
import java.nio.file.Path;
import java.util.NoSuchElementException;

/**
 * The four examples of section 7: as they stood in the document when this test was written, and, call
 * by call, as they stand there now; and a run of as many calls as the document allows.
 */
public final class ExamplesTest {
    public static void main(String[] args) throws Exception {
        asTold();
        steps();
        nulls();
        sums();
        errors();
        manyCalls();
        Check.end();
    }

    /** An example is a line like "  1. What it shows: "n"; addColumn(3) = 0; .. select() = 2." */
    private static void asTold() throws Exception {
        int examples = 0;
        boolean isBehindHeading = false;
        for (String line : Files.readAllLines(Path.of("../shared/DOC.md"))) {
            isBehindHeading |= line.startsWith("Examples:");
            if (isBehindHeading && line.matches("  \\d\\. .*: .*\\.")) {
                examples++;
                Check.within = "example " + examples + ": ";
                example(line.substring(line.indexOf(": ") + 2, line.length() - 1).split("; "));
            }
        }
        Check.within = "";
        Check.due("examples in the document", examples, 4);
    }

    private static void example(String[] rows) throws Exception {
        ColumnTable t = new ColumnTable();
        for (String row : rows) {
            if (row.startsWith("\"")) {
                Check.put(t, row.substring(1, row.length() - 1));
            } else {
                String[] sides = row.split(" = ", 2);
                String want = sides[1].startsWith("throws ") ? sides[1].substring("throws ".length()) : sides[1];
                Check.due(sides[0], answer(t, sides[0]), want);
            }
        }
    }

    private static String answer(ColumnTable t, String call) throws Exception {
        String inside = call.substring(call.indexOf('(') + 1, call.length() - 1);
        String[] given = inside.isEmpty() ? new String[0] : inside.split(", ");
        for (Method method : ColumnTable.class.getMethods()) {
            if (method.getName().equals(call.substring(0, call.indexOf('(')))) {
                Object[] values = new Object[given.length];
                for (int i = 0; i < given.length; i++) {
                    values[i] = value(given[i], method.getParameterTypes()[i]);
                }
                try {
                    return String.valueOf(method.invoke(t, values));
                } catch (InvocationTargetException e) {
                    return e.getCause().getClass().getSimpleName();
                }
            }
        }
        return "no such method";
    }

    private static Object value(String text, Class<?> type) {
        if (type == int.class) {
            return Integer.valueOf(text);
        }
        if (type == long.class) {
            return Long.valueOf(text.replace("L", ""));
        }
        return type == double.class ? (Object) Double.valueOf(text) : Boolean.valueOf(text);
    }

    private static void steps() {
        ColumnTable t = new ColumnTable();
        Check.due("addColumn", Check.column(t, "n", 3), 0);
        Check.due("setSegmentSize", t.setSegmentSize(4), 16);
        Check.due("setLong", t.setLong(0, 10L), 10L);
        Check.due("setStep", t.setStep(0, 2.0), 2.0);
        Check.due("addRows", t.addRows(4), 0);
        Check.due("encoding", t.encoding(0, 0), 3);
        Check.due("bits", t.bits(0, 0), 128L);
        Check.due("select", Check.select(t, "n > 13"), 2);
        Check.due("comparisons", t.comparisons(), 2L);
    }

    private static void nulls() {
        ColumnTable t = new ColumnTable();
        Check.due("addColumn", Check.column(t, "a", 1), 0);
        Check.due("addRows", t.addRows(1), 0);
        Check.due("setLong", t.setLong(0, 5L), 5L);
        Check.due("addRows", t.addRows(1), 1);
        Check.due("not a = 4", Check.select(t, "not a = 4"), 1);
        Check.due("selected", t.selected(0), 1);
        Check.due("a is null", Check.select(t, "a is null"), 1);
    }

    private static void sums() {
        ColumnTable t = new ColumnTable();
        Check.due("addColumn", Check.column(t, "p", 5), 0);
        Check.due("setDouble", t.setDouble(0, 1.25), 1.25);
        Check.due("addRows", t.addRows(3), 0);
        Check.due("selectAll", t.selectAll(), 3);
        Check.due("sumDouble", t.sumDouble(0), 3.75);
        Check.due("delete", t.delete(), 3);
        Check.due("rowCount", t.rowCount(), 0);
        Check.dueThrow("getDouble", NoSuchElementException.class, () -> t.getDouble(1, 0));
    }

    private static void errors() {
        ColumnTable t = new ColumnTable();
        Check.due("addColumn", Check.column(t, "q", 0), 0);
        Check.dueThrow("q = 1", IllegalArgumentException.class, () -> Check.select(t, "q = 1"));
        Check.due("errorKind", t.errorKind(), 3);
        Check.due("errorPosition", t.errorPosition(), 0);
        Check.dueThrow("addRows", IllegalArgumentException.class, () -> t.addRows(0));
    }

    /** 512 calls: 4 to begin with, then 36 times 14 for a predicate of 200 bytes, and 4 more. */
    private static void manyCalls() {
        ColumnTable t = new ColumnTable();
        Check.column(t, "b", 0);
        t.addRows(100);
        String longest = "not (b) and not b or ".repeat(9) + "b or b or b";
        Check.due("bytes", longest.length(), 200);
        for (int i = 0; i < 36; i++) {
            t.setLong(0, i % 2);
            t.addRows(1);
            for (int from = 0; from < 200; from += 20) {
                int[] words = new int[5];
                for (int k = 0; k < 20; k++) {
                    words[k / 4] = words[k / 4] << 8 | longest.charAt(from + k);
                }
                Check.due("feed", t.feed(words[0], words[1], words[2], words[3], words[4]), from + 20);
            }
            Check.due("select", t.select(), i + 1);
            t.selectAll();
        }
        Check.due("rows", t.rowCount(), 136);
        Check.due("comparisons", t.comparisons(), 0L);
        Check.due("segments", t.segmentCount(), 9);
        Check.due("the 512th call", t.selectedCount(), 136);
    }
}
