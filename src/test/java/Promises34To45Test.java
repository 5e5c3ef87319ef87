import java.util.NoSuchElementException;
import java.util.function.BiConsumer;

/** Promises 34 to 45, sentence by sentence: select, the selection, and what is computed from it. */
public final class Promises34To45Test {
    private static final Class<IndexOutOfBoundsException> INDEX = IndexOutOfBoundsException.class;
    private static final Class<IllegalArgumentException> ARGUMENT = IllegalArgumentException.class;
    private static final Class<NoSuchElementException> ELEMENT = NoSuchElementException.class;

    public static void main(String[] args) throws Exception {
        Sentences doc = new Sentences("promise", 34, 45);
        select(doc);
        selectAll(doc);
        errors(doc);
        comparisons(doc);
        selected(doc);
        sortSelection(doc);
        extreme(doc);
        valueCount(doc);
        sumLong(doc);
        sumDouble(doc);
        doc.end();
    }

    /** Rows of a LONG and b DOUBLE: 3 0.5, null 0.25, 1 null, 3 -0, null null, 2 0. All are selected. */
    private static ColumnTable six() {
        ColumnTable t = Tables.of(4, 3, 5);
        long[] longs = {3, -1, 1, 3, -1, 2};
        double[] doubles = {0.5, 0.25, -1, -0.0, -1, 0};
        for (int i = 0; i < 6; i++) {
            t.setNull(0);
            t.setNull(1);
            if (longs[i] >= 0) {
                t.setLong(0, longs[i]);
            }
            if (doubles[i] >= 0) {
                t.setDouble(1, doubles[i]);
            }
            t.addRows(1);
        }
        t.selectAll();
        return t;
    }

    private static ColumnTable selecting(String predicate) {
        ColumnTable t = six();
        Check.select(t, predicate);
        return t;
    }

    private static void noColumn(Sentences doc, BiConsumer<ColumnTable, Integer> call) {
        doc.hold("Throws `IndexOutOfBoundsException` if there is no such column", () -> {
            for (int column : new int[] {-1, 2, 8, Integer.MIN_VALUE, Integer.MAX_VALUE}) {
                Tables.refused("column " + column, INDEX, Promises34To45Test::six, t -> call.accept(t, column));
                Tables.refused("column " + column + ", nothing selected", INDEX, () -> selecting("a = 9"),
                        t -> call.accept(t, column));
            }
            Tables.refused("no columns", INDEX, ColumnTable::new, t -> call.accept(t, 0));
        });
    }

    private static void select(Sentences doc) {
        doc.at("promise 34");
        doc.hold("Reads the text buffer as a predicate, evaluates it, and selects, in storage order, all rows that are not deleted and"
                + " for which it is true.", () -> {
            ColumnTable t = six();
            Check.due("true", Check.picked(t, "a >= 2"), "0 3 5 / 3");
            Check.due("not those that are unknown", Check.picked(t, "not a >= 2"), "2 / 3");
            t.recluster(0);
            Check.due("storage order", Check.picked(t, "a >= 2"), "5 0 3 / 4");
            t.selectAll();
            t.sortSelection(0, true);
            Check.due("whatever was selected", Check.picked(t, "a >= 2"), "5 0 3 / 4");
            Tables.drop(t, "a = 2");
            Check.due("not deleted ones", Check.picked(t, "a >= 2"), "0 3 / 4");
            Check.due("none", Check.picked(t, "a is null and a is not null"), "/ 0");
        });
        doc.hold("The buffer is empty afterwards in any case.", () -> {
            for (String text : new String[] {"", "a = 1", "a = 1.5", "zz", "~", "b", " ".repeat(200)}) {
                ColumnTable t = six();
                Check.put(t, text);
                Check.outcome(() -> t.select());
                Check.due("bytes behind '" + text + "'", Tables.buffered(t), 0);
                Check.dueThrow("so that the next text is empty", ARGUMENT, () -> t.select());
            }
        });
        doc.hold("Returns the number of selected rows.", () -> {
            ColumnTable t = six();
            Check.due("three", Check.select(t, "a >= 2"), 3);
            Check.due("none", Check.select(t, "a > 3"), 0);
            Check.due("of a table without rows", Check.select(Tables.of(4, 3), "a > 3"), 0);
            ColumnTable full = Tables.rising(64, 300);
            Check.due("300", Check.select(full, "a >= 0"), 300);
            Check.due("299", Check.select(full, "a > 0"), 299);
        });
        doc.hold("Throws `IllegalArgumentException` if the text has an error (section 4)", () -> {
            String[][] wrong = {{"", "1 0"}, {"a =", "1 3"}, {"zz", "2 0"}, {"a", "3 0"}, {"a = 1.5", "4 4"}, {"b % 0 = 1", "4 4"},
                {"a = b", "3 4"}, {"(a = 1", "1 6"}, {"a = 1)", "1 5"}};
            for (String[] pair : wrong) {
                ColumnTable t = six();
                t.sortSelection(0, true);
                String selection = Tables.selection(t);
                Check.put(t, pair[0]);
                Check.dueThrow(pair[0], ARGUMENT, () -> t.select());
                Check.due("kind and position", t.errorKind() + " " + t.errorPosition(), pair[1]);
                Check.due("the selection stays", Tables.selection(t), selection);
            }
        });
    }

    private static void selectAll(Sentences doc) {
        doc.at("promise 35");
        doc.hold("Selects all rows that are not deleted, in storage order.", () -> {
            ColumnTable t = six();
            Check.due("all", Tables.selection(t), "0 1 2 3 4 5");
            Tables.drop(t, "a = 3");
            t.selectAll();
            Check.due("not deleted ones", Tables.selection(t), "1 2 4 5");
            t.recluster(1);
            t.selectAll();
            Check.due("storage order", Tables.selection(t), "2 4 5 1");
            t.feed(-1, 0, 0, 0, 0);
            t.selectAll();
            Check.due("the text buffer stays", Tables.buffered(t), 20);
        });
        doc.hold("Returns the number of selected rows.", () -> {
            Check.due("no columns", new ColumnTable().selectAll(), 0);
            Check.due("no rows", Tables.of(4, 3).selectAll(), 0);
            Check.due("six", six().selectAll(), 6);
            ColumnTable t = Tables.rising(64, 300);
            Check.due("300", t.selectAll(), 300);
            t.delete();
            Check.due("all deleted", t.selectAll(), 0);
        });
    }

    private static void errors(Sentences doc) {
        doc.at("promise 36");
        doc.hold("Returns the kind of the error of the latest call of select, 1 to 4;", () -> {
            ColumnTable t = six();
            String[] texts = {"a =", "zz", "a", "a = 1.5"};
            for (int kind = 1; kind <= 4; kind++) {
                Check.error(t, texts[kind - 1]);
                Check.due(texts[kind - 1], t.errorKind(), kind);
                t.selectAll();
                Check.outcome(() -> t.addColumn(9));
                Check.due("kept by other calls", t.errorKind(), kind);
            }
        });
        doc.hold("0 if it had none or there was no such call.", () -> {
            ColumnTable t = six();
            Check.due("no call", t.errorKind(), 0);
            Check.error(t, "zz");
            Check.select(t, "a = 1");
            Check.due("no error", t.errorKind(), 0);
        });
        doc.at("promise 37");
        doc.hold("Returns the position of the error of the latest call of select;", () -> {
            ColumnTable t = six();
            String[] texts = {"", "a = ", "a = 1 and zz", "b in 1 .. -1000000001", " ".repeat(200), " ".repeat(199) + "~"};
            int[] want = {0, 4, 10, 11, 200, 199};
            for (int i = 0; i < texts.length; i++) {
                Check.error(t, texts[i]);
                Check.due(texts[i], t.errorPosition(), want[i]);
                t.selectAll();
                Check.due("kept by other calls", t.errorPosition(), want[i]);
            }
        });
        doc.hold("-1 if it had none or there was no such call.", () -> {
            ColumnTable t = six();
            Check.due("no call", t.errorPosition(), -1);
            Check.error(t, "zz");
            Check.select(t, "a = 1");
            Check.due("no error", t.errorPosition(), -1);
        });
    }

    private static void comparisons(Sentences doc) {
        doc.at("promise 38");
        doc.hold("Returns the number of comparisons of the latest call of select without an error;", () -> {
            ColumnTable t = six();
            Check.select(t, "a % 2 = 1");
            Check.due("of all segments", t.comparisons(), 3L);
            Check.select(t, "b % 2 = 1 and a = a");
            Check.due("of all tests", t.comparisons(), 8L);
            Check.error(t, "a % 2 =");
            Check.due("not of a call with an error", t.comparisons(), 8L);
            t.selectAll();
            Check.due("nor of selectAll", t.comparisons(), 8L);
            Check.select(t, "a is null");
            Check.due("none", t.comparisons(), 0L);
        });
        doc.hold("0 if there was none.", () -> {
            ColumnTable t = six();
            Check.due("no call", t.comparisons(), 0L);
            Check.error(t, "a % 2 =");
            Check.due("an error", t.comparisons(), 0L);
        });
    }

    private static void selected(Sentences doc) {
        doc.at("promise 39");
        doc.hold("Returns the number of selected rows.", () -> {
            Check.due("at first", Tables.of(4, 3).selectedCount(), 0);
            Check.due("six", six().selectedCount(), 6);
            ColumnTable t = selecting("a >= 2");
            Check.due("three", t.selectedCount(), 3);
            t.delete();
            Check.due("deleted", t.selectedCount(), 0);
            Check.due("none", selecting("a > 3").selectedCount(), 0);
        });
        doc.at("promise 40");
        doc.hold("- `index`: an index in the selection, from 0", () -> {
            ColumnTable t = selecting("a >= 2");
            Check.due("0", t.selected(0), 0);
            Check.due("2", t.selected(2), 5);
        });
        doc.hold("Returns the number of the row.", () -> {
            ColumnTable t = selecting("a >= 2");
            t.sortSelection(0, false);
            Check.due("in the order of the selection", t.selected(0) + " " + t.selected(1) + " " + t.selected(2), "5 0 3");
            ColumnTable full = Tables.rising(64, 300);
            full.selectAll();
            Check.due("299", full.selected(299), 299);
        });
        doc.hold("Throws `IndexOutOfBoundsException` if there is no such index", () -> {
            for (int index : new int[] {-1, 3, 299, 300, Integer.MIN_VALUE, Integer.MAX_VALUE}) {
                Tables.refused("index " + index, INDEX, () -> selecting("a >= 2"), t -> t.selected(index));
            }
            Tables.refused("index 0 of none", INDEX, () -> selecting("a > 3"), t -> t.selected(0));
            Tables.refused("index 0 at first", INDEX, ColumnTable::new, t -> t.selected(0));
        });
    }

    private static void sorted(String what, ColumnTable t, int column, boolean isDescending, String want) {
        t.sortSelection(column, isDescending);
        Check.due(what, Tables.selection(t), want);
    }

    private static void sortSelection(Sentences doc) {
        doc.at("promise 41");
        doc.hold("Sorts the selection by the cells of a column.", () -> {
            sorted("by a", six(), 0, false, "1 4 2 5 0 3");
            sorted("by b", six(), 1, false, "2 4 3 5 1 0");
            sorted("some rows", selecting("a >= 2"), 0, false, "5 0 3");
            sorted("none", selecting("a > 3"), 0, false, "");
            sorted("one", selecting("a = 1"), 0, true, "2");
        });
        doc.hold("Rows with equal cells keep their order.", () -> {
            ColumnTable t = six();
            sorted("by b, descending", t, 1, true, "0 1 5 3 2 4");
            sorted("then by a", t, 0, false, "1 4 2 5 0 3");
            sorted("then by a, descending", t, 0, true, "0 3 5 2 1 4");
            sorted("a second time", t, 0, true, "0 3 5 2 1 4");
            ColumnTable many = Tables.of(64, 3);
            many.setLong(0, 1);
            many.addRows(100);
            many.setLong(0, 0);
            many.addRows(100);
            many.selectAll();
            many.sortSelection(0, false);
            for (int i = 0; i < 200; i++) {
                Check.due("place " + i, many.selected(i), (i + 100) % 200);
            }
        });
        doc.hold("- `isDescending`: false for the order of section 6, true for the reverse order (null last)", () -> {
            ColumnTable t = Tables.doubles(16, 5, 0.0, 1e9, -0.0, -1e9, Double.MIN_VALUE);
            Tables.addNulls(t, 1);
            t.selectAll();
            sorted("false", t, 0, false, "5 3 2 0 4 1");
            sorted("true", t, 0, true, "1 4 0 2 3 5");
            ColumnTable b = Tables.longs(16, 0, 1, 0);
            Tables.addNulls(b, 1);
            b.selectAll();
            sorted("booleans", b, 0, false, "2 1 0");
            sorted("booleans, descending", b, 0, true, "0 1 2");
        });
        doc.hold("Returns the number of selected rows.", () -> {
            Check.due("six", six().sortSelection(0, true), 6);
            Check.due("three", selecting("a >= 2").sortSelection(0, false), 3);
            Check.due("none", selecting("a > 3").sortSelection(0, false), 0);
        });
        noColumn(doc, (t, column) -> t.sortSelection(column, true));
    }

    private static void extreme(Sentences doc) {
        doc.at("promise 42");
        doc.hold("- `isGreatest`: true for the greatest value, false for the least one", () -> {
            Check.due("greatest", six().extreme(0, true), 0);
            Check.due("least", six().extreme(0, false), 2);
            ColumnTable l = Tables.longs(16, 3, 0, Long.MIN_VALUE, Long.MAX_VALUE);
            l.selectAll();
            Check.due("of all longs", l.extreme(0, true) + " " + l.extreme(0, false), "2 1");
            ColumnTable n = Tables.longs(16, 3, Long.MAX_VALUE - 1, Long.MAX_VALUE);
            n.selectAll();
            Check.due("not as doubles", n.extreme(0, true), 1);
            ColumnTable b = Tables.longs(16, 0, 0, 1);
            b.selectAll();
            Check.due("of booleans", b.extreme(0, true) + " " + b.extreme(0, false), "1 0");
        });
        doc.hold("Returns the row, the first one in the selection, that has the greatest or least value of the column of all selected"
                + " rows.", () -> {
            ColumnTable t = six();
            Check.due("the first of two", t.extreme(0, true), 0);
            t.sortSelection(1, false);
            Check.due("in the order of the selection", t.extreme(0, true), 3);
            Check.due("0 and -0", six().extreme(1, false), 3);
            ColumnTable z = Tables.doubles(16, 4, -0.0, 0.0, 0.0, -0.0);
            z.selectAll();
            Check.due("zeros", z.extreme(0, true) + " " + z.extreme(0, false), "1 0");
            Check.due("of the selected rows alone", selecting("a < 3").extreme(0, true), 5);
            Check.due("null is neither", selecting("a is null or a = 2").extreme(0, false), 5);
        });
        noColumn(doc, (t, column) -> t.extreme(column, true));
        doc.hold("Throws `NoSuchElementException` if no selected row has a value in this column", () -> {
            for (boolean isGreatest : new boolean[] {true, false}) {
                Tables.refused("nulls", ELEMENT, () -> selecting("a is null"), t -> t.extreme(0, isGreatest));
                Tables.refused("no rows", ELEMENT, () -> selecting("a > 3"), t -> t.extreme(0, isGreatest));
                Tables.refused("nothing selected", ELEMENT, () -> Tables.of(4, 3), t -> t.extreme(0, isGreatest));
                Check.due("one value", selecting("a is null").extreme(1, isGreatest), 1);
            }
        });
    }

    private static void valueCount(Sentences doc) {
        doc.at("promise 43");
        doc.hold("Returns the number of selected rows that have a value in this column.", () -> {
            Check.due("a", six().valueCount(0), 4);
            Check.due("b", six().valueCount(1), 4);
            Check.due("of some rows", selecting("a = 3 or a is null").valueCount(1), 3);
            Check.due("of nulls", selecting("a is null").valueCount(0), 0);
            Check.due("of none", selecting("a > 3").valueCount(0), 0);
            ColumnTable full = Tables.rising(64, 300);
            full.selectAll();
            Check.due("300", full.valueCount(0), 300);
        });
        noColumn(doc, ColumnTable::valueCount);
    }

    private static void sumLong(Sentences doc) {
        doc.at("promise 44");
        doc.hold("- `column`: a column that is not of a floating type", () -> {
            for (int type = 0; type < 4; type++) {
                ColumnTable t = Tables.longs(16, type, 1, 0, 1);
                Tables.addNulls(t, 1);
                t.selectAll();
                Check.due("type " + type, t.sumLong(0), 2L);
            }
        });
        doc.hold("Returns the sum of its values in the selected rows, converted to longs, which wraps around.", () -> {
            Check.due("nulls do not count", six().sumLong(0), 9L);
            Check.due("selected rows alone", selecting("a = 3").sumLong(0), 6L);
            Check.due("none", selecting("a > 3").sumLong(0), 0L);
            ColumnTable t = Tables.longs(16, 3, Long.MAX_VALUE, 1);
            t.selectAll();
            Check.due("2^63 wraps around", t.sumLong(0), Long.MIN_VALUE);
            ColumnTable u = Tables.longs(16, 3, Long.MIN_VALUE, -1);
            u.selectAll();
            Check.due("-2^63 - 1 wraps around", u.sumLong(0), Long.MAX_VALUE);
            ColumnTable v = Tables.longs(16, 3, Long.MAX_VALUE, Long.MAX_VALUE, 3);
            v.selectAll();
            Check.due("2^64 + 1 wraps around", v.sumLong(0), 1L);
            ColumnTable c = Tables.of(64, 2);
            c.setLong(0, 65535);
            c.addRows(100);
            c.selectAll();
            Check.due("beyond the type's range", c.sumLong(0), 6553500L);
        });
        noColumn(doc, ColumnTable::sumLong);
        doc.hold("Throws `IllegalArgumentException` if the column is of a floating type", () -> {
            Tables.refused("DOUBLE", ARGUMENT, Promises34To45Test::six, t -> t.sumLong(1));
            Tables.refused("FLOAT", ARGUMENT, () -> Tables.doubles(16, 4, 1), t -> t.sumLong(0));
            Tables.refused("FLOAT without rows", ARGUMENT, () -> Tables.of(16, 4), t -> t.sumLong(0));
            Check.due("not another one", six().sumLong(0), 9L);
        });
    }

    private static void sumDouble(Sentences doc) {
        doc.at("promise 45");
        doc.hold("Returns the sum of its values in the selected rows, converted to doubles, which are added to 0 one after the other in"
                + " the order of the selection, each sum rounded to the nearest double.", () -> {
            Check.due("nulls do not count", six().sumDouble(1), 0.75);
            Check.due("of longs", six().sumDouble(0), 9.0);
            Check.due("none", selecting("a > 3").sumDouble(1), 0.0);
            for (int type = 0; type < 6; type++) {
                ColumnTable t = Tables.longs(16, type, 1, 0, 1);
                t.selectAll();
                Check.due("type " + type, t.sumDouble(0), 2.0);
            }
            ColumnTable z = Tables.doubles(16, 5, -0.0, -0.0);
            z.selectAll();
            Check.due("0 and -0 is 0", z.sumDouble(0), 0.0);
            ColumnTable t = Tables.doubles(16, 5, 1e9, 1e-8, -1e9, 1e-8);
            t.selectAll();
            Check.due("rounded each time", t.sumDouble(0), 1e9 + 1e-8 - 1e9 + 1e-8);
            t.sortSelection(0, false);
            Check.due("in the order of the selection", t.sumDouble(0), -1e9 + 1e-8 + 1e-8 + 1e9);
            Check.due("which makes a difference", 1e9 + 1e-8 - 1e9 + 1e-8 != -1e9 + 1e-8 + 1e-8 + 1e9, true);
            ColumnTable l = Tables.longs(16, 3, 1L << 53, 1, 1);
            l.selectAll();
            Check.due("longs are rounded, too", l.sumDouble(0), 9007199254740992.0);
            l.sortSelection(0, false);
            Check.due("in their order", l.sumDouble(0), 9007199254740994.0);
            ColumnTable f = Tables.doubles(16, 4, 0.1, 0.1);
            f.selectAll();
            Check.due("floats as doubles", f.sumDouble(0), (double) 0.1f + (double) 0.1f);
        });
        noColumn(doc, ColumnTable::sumDouble);
    }
}
