/** Section 6 of the document, sentence by sentence: the selection and the order of cells. */
public final class Section6Test {
    public static void main(String[] args) throws Exception {
        Sentences doc = new Sentences("section", 6, 6);
        doc.at("section 6");
        contents(doc);
        changes(doc);
        order(doc);
        doc.end();
    }

    private static void contents(Sentences doc) {
        doc.hold("The selection is a list of rows that are not deleted.", () -> {
            ColumnTable t = Tables.rising(4, 6);
            Tables.drop(t, "a in 1 .. 2");
            t.selectAll();
            Check.due("selectAll", Tables.selection(t), "0 3 4 5");
            Check.select(t, "a < 4");
            Check.due("select", Tables.selection(t), "0 3");
        });
        doc.hold("It is empty at first;", () -> {
            ColumnTable t = Tables.rising(4, 6);
            Check.due("count", t.selectedCount(), 0);
            Check.dueThrow("index 0", IndexOutOfBoundsException.class, () -> t.selected(0));
            Check.due("nothing to delete", t.delete() + " " + t.rowCount(), "0 6");
        });
    }

    private static void changes(Sentences doc) {
        doc.hold("select and selectAll replace it,", () -> {
            ColumnTable t = Tables.rising(4, 6);
            Check.select(t, "a > 2");
            Check.due("select", Tables.selection(t), "3 4 5");
            Check.select(t, "a < 1");
            Check.due("select again", Tables.selection(t), "0");
            Check.select(t, "a > 9");
            Check.due("select none", Tables.selection(t), "");
            t.selectAll();
            Check.due("selectAll", Tables.selection(t), "0 1 2 3 4 5");
            t.sortSelection(0, true);
            t.selectAll();
            Check.due("in storage order again", Tables.selection(t), "0 1 2 3 4 5");
        });
        doc.hold("sortSelection changes its order,", () -> {
            ColumnTable t = Tables.rising(4, 6);
            Check.select(t, "a > 2");
            t.sortSelection(0, true);
            Check.due("descending", Tables.selection(t), "5 4 3");
            Check.due("not the rows' order", Check.picked(t, "a > 2"), "3 4 5 / 4");
        });
        doc.hold("and rows that are deleted are removed from it.", () -> {
            ColumnTable t = Tables.rising(4, 6);
            t.selectAll();
            t.delete();
            Check.due("all", t.selectedCount(), 0);
            Check.dueThrow("index 0", IndexOutOfBoundsException.class, () -> t.selected(0));
        });
        doc.hold("Nothing else changes it.", () -> {
            ColumnTable t = Tables.of(4, 3, 5);
            t.setLong(0, 0);
            t.setStep(0, 1);
            t.setDouble(1, 2);
            t.addRows(6);
            Check.select(t, "a > 2");
            t.sortSelection(0, true);
            t.setLong(0, -9);
            t.update(0);
            Check.due("update", Tables.selection(t), "5 4 3");
            t.multiply(1, 3);
            Check.due("multiply", Tables.selection(t), "5 4 3");
            t.addRows(1);
            Check.due("addRows", Tables.selection(t), "5 4 3");
            t.seal();
            t.compact();
            t.recluster(0);
            Check.due("seal, compact, recluster", Tables.selection(t), "5 4 3");
            t.group(0, 1);
            t.extreme(0, true);
            Check.due("group, extreme", Tables.selection(t), "5 4 3");
            t.sumDouble(1);
            t.valueCount(1);
            t.digest();
            Check.due("sums", Tables.selection(t), "5 4 3");
            Check.error(t, "a >");
            Check.due("select with an error", Tables.selection(t), "5 4 3");
            Check.dueThrow("no column", IndexOutOfBoundsException.class, () -> t.sortSelection(2, false));
            Check.due("sortSelection that throws", Tables.selection(t), "5 4 3");
        });
    }

    private static void order(Sentences doc) {
        doc.hold("The order of cells of a column is: null first, then the values in ascending order.", () -> {
            long[][] values = {{1, 0}, {32767, -32768}, {65535, 0}, {Long.MAX_VALUE, Long.MIN_VALUE}};
            for (int type = 0; type < 4; type++) {
                ColumnTable t = Tables.longs(2, type, values[type]);
                Tables.addNulls(t, 1);
                t.selectAll();
                t.sortSelection(0, false);
                Check.due("sorted, type " + type, Tables.selection(t), "2 1 0");
                t.recluster(0);
                t.selectAll();
                Check.due("reclustered, type " + type, Tables.selection(t), "2 1 0");
            }
            for (int type = 4; type < 6; type++) {
                ColumnTable t = Tables.doubles(2, type, 1e9, 0.0, Float.MIN_VALUE, -0.0, -Float.MIN_VALUE, -1e9);
                Tables.addNulls(t, 1);
                t.selectAll();
                t.sortSelection(0, false);
                Check.due("sorted, type " + type, Tables.selection(t), "6 5 4 3 1 2 0");
                t.recluster(0);
                t.selectAll();
                Check.due("reclustered, type " + type, Tables.selection(t), "6 5 4 3 1 2 0");
            }
        });
    }
}
