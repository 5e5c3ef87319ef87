/** Section 2 of the document, sentence by sentence: columns, the pending row, steps and row numbers. */
public final class Section2Test {
    public static void main(String[] args) throws Exception {
        Sentences doc = new Sentences("section", 2, 2);
        doc.at("section 2");
        columns(doc);
        pendingRow(doc);
        steps(doc);
        wholeSteps(doc);
        realSteps(doc);
        rows(doc);
        doc.end();
    }

    private static void columns(Sentences doc) {
        doc.hold("There are at most 8 columns, numbered from 0.", () -> {
            ColumnTable t = new ColumnTable();
            for (int i = 0; i < 8; i++) {
                Check.due("number", Check.column(t, "n" + (char) ('a' + i), 3), i);
            }
            Check.dueThrow("a ninth one", IllegalStateException.class, () -> Check.column(t, "z", 3));
            Check.due("count", t.columnCount(), 8);
            Check.due("the last one", t.type(7), 3);
            Check.dueThrow("number 8", IndexOutOfBoundsException.class, () -> t.type(8));
        });
        doc.hold("A column has a type and a name: 1 to 8 letters a to z,", () -> {
            ColumnTable t = new ColumnTable();
            Check.due("one letter", Check.column(t, "a", 0), 0);
            Check.due("the last letter", Check.column(t, "z", 1), 1);
            Check.due("eight letters", Check.column(t, "azazazaz", 2), 2);
            String[] wrong = {"", "abcdefghi", "`", "{", "A", "Z", "0", "a b", " a", "a ", "a_", "a\u0000", "a\u00e1"};
            for (String name : wrong) {
                Check.dueThrow("'" + name + "'", IllegalArgumentException.class, () -> Check.column(t, name, 3));
            }
            Check.due("count", t.columnCount(), 3);
        });
        doc.hold("but not one of the words and, or, not, is, null, in;", () -> {
            ColumnTable t = new ColumnTable();
            for (String word : new String[] {"and", "or", "not", "is", "null", "in"}) {
                Check.dueThrow(word, IllegalArgumentException.class, () -> Check.column(t, word, 3));
            }
            String[] near = {"an", "ands", "o", "nots", "i", "nul", "inn", "xor"};
            for (String name : near) {
                Check.due(name, Check.outcome(() -> Check.column(t, name, 0)).length(), 1);
            }
            Check.due("all of these are names", t.columnCount(), 8);
            Check.due("in predicates, too", Check.error(t, "an and ands or not o and not nots or i is null"), "none");
        });
        doc.hold("all names are different.", () -> {
            ColumnTable t = Tables.of(16, 3, 3);
            Check.dueThrow("a again", IllegalStateException.class, () -> Check.column(t, "a", 3));
            Check.dueThrow("b again, of another type", IllegalStateException.class, () -> Check.column(t, "b", 0));
            Check.due("a longer one", Check.column(t, "ab", 3), 2);
            Check.due("the same letters", Check.column(t, "ba", 3), 3);
        });
    }

    private static void pendingRow(Sentences doc) {
        doc.hold("The pending row has a cell and a step for each column. The cells are null and the steps 0 at first.", () -> {
            for (int type = 0; type < 6; type++) {
                ColumnTable t = Tables.of(16, type);
                Check.due("null at first", t.setNull(0), true);
                t.addRows(2);
                Check.due("so are the rows", t.isNull(0, 0) + " " + t.isNull(1, 0), "true true");
                t.setLong(0, 1);
                t.addRows(2);
                Check.due("without a step", t.getLong(2, 0) + " " + t.getLong(3, 0), "1 1");
            }
            ColumnTable two = Tables.of(16, 3, 3);
            two.setLong(0, 5);
            two.setStep(1, 2);
            Check.due("a cell of its own", two.setNull(1), true);
            two.setLong(1, 7);
            two.addRows(2);
            Check.due("and a step of its own", two.getLong(1, 0) + " " + two.getLong(1, 1), "5 9");
        });
        doc.hold("A null cell is null in all rows.", () -> {
            ColumnTable t = Tables.of(16, 1);
            t.setLong(0, 32767);
            t.setStep(0, 1000000);
            t.setNull(0);
            t.addRows(3);
            for (int row = 0; row < 3; row++) {
                Check.due("row " + row, t.isNull(row, 0), true);
            }
        });
        doc.hold("BOOLEAN columns have the step 0.", () -> {
            ColumnTable t = Tables.of(16, 0);
            for (double step : new double[] {0, -0.0, 0.5, 1, -1}) {
                Check.dueThrow("step " + step, IllegalArgumentException.class, () -> t.setStep(0, step));
            }
            t.setLong(0, 1);
            t.addRows(3);
            Check.due("true in all rows", t.getLong(0, 0) + t.getLong(1, 0) + t.getLong(2, 0), 3L);
        });
    }

    private static void steps(Sentences doc) {
        doc.hold("A step is a number that is added from row to row when several rows are added: if the cell of the"
                + " pending row contains the value v, row i of those that are added (from 0) contains v + i * step,"
                + " in the following way.", () -> {
            ColumnTable t = Tables.of(16, 3, 5);
            t.setLong(0, 7);
            t.setStep(0, -3);
            t.setDouble(1, 0.5);
            t.setStep(1, 0.25);
            t.addRows(1);
            Check.due("row 0 has v", t.getLong(0, 0) + " " + t.getDouble(0, 1), "7 0.5");
            t.addRows(3);
            Check.due("i counts from the first of these rows", t.getLong(1, 0) + " " + t.getDouble(1, 1), "7 0.5");
            Check.due("row 1", t.getLong(2, 0) + " " + t.getDouble(2, 1), "4 0.75");
            Check.due("row 2", t.getLong(3, 0) + " " + t.getDouble(3, 1), "1 1.0");
            t.addRows(100);
            Check.due("row 99", t.getLong(103, 0) + " " + t.getDouble(103, 1), (7 - 297) + " " + (0.5 + 24.75));
        });
        doc.hold("If the step is 0 or -0, every row contains v itself.", () -> {
            for (double step : new double[] {0.0, -0.0}) {
                ColumnTable t = Tables.of(16, 3, 4, 5);
                t.setLong(0, Long.MAX_VALUE);
                t.setDouble(1, -0.0);
                t.setDouble(2, -0.0);
                for (int column = 0; column < 3; column++) {
                    t.setStep(column, step);
                }
                t.addRows(3);
                for (int row = 0; row < 3; row++) {
                    Check.due("LONG", t.getLong(row, 0), Long.MAX_VALUE);
                    Check.due("FLOAT", t.getDouble(row, 1), -0.0);
                    Check.due("DOUBLE", t.getDouble(row, 2), -0.0);
                }
            }
        });
    }

    private static void wholeSteps(Sentences doc) {
        doc.hold("For an integer type, the step is an integer, and the result is exact.", () -> {
            ColumnTable t = Tables.of(16, 3, 1, 2);
            Check.due("1.99 is 1", t.setStep(0, 1.99), 1.0);
            Check.due("-1.99 is -1", t.setStep(1, -1.99), -1.0);
            Check.due("0.99 is 0", t.setStep(2, 0.99), 0.0);
            t.setLong(0, (1L << 53) + 1);
            t.setLong(1, 0);
            t.setLong(2, 65535);
            t.addRows(3);
            Check.due("more digits than a double has", t.getLong(2, 0), (1L << 53) + 3);
            Check.due("SHORT", t.getLong(2, 1), -2L);
            Check.due("CHAR", t.getLong(2, 2), 65535L);
            t.setStep(0, 1000000);
            t.setLong(0, Long.MAX_VALUE - 99000000);
            t.setStep(1, 0);
            t.addRows(100);
            Check.due("the greatest LONG", t.getLong(102, 0), Long.MAX_VALUE);
            t.setLong(0, Long.MAX_VALUE - 98999999);
            Check.dueThrow("one more", ArithmeticException.class, () -> t.addRows(100));
            Check.due("with one row less", t.addRows(99), 103);
            t.setStep(0, -1000000);
            t.setLong(0, Long.MIN_VALUE + 96999999);
            Check.dueThrow("one less than the least LONG", ArithmeticException.class, () -> t.addRows(98));
            t.setLong(0, Long.MIN_VALUE + 97000000);
            t.addRows(98);
            Check.due("the least LONG", t.getLong(299, 0), Long.MIN_VALUE);
        });
    }

    private static void realSteps(Sentences doc) {
        doc.hold("For a floating type, the result is computed with doubles (first the product, then the sum, each rounded"
                + " to the nearest double),", () -> {
            ColumnTable t = Tables.of(64, 5);
            t.setDouble(0, 0.1);
            t.setStep(0, 0.1);
            t.addRows(64);
            double addedUp = 0.1;
            boolean isDifferent = false;
            for (int i = 0; i < 64; i++) {
                Check.due("row " + i, t.getDouble(i, 0), 0.1 + i * 0.1);
                isDifferent |= addedUp != 0.1 + i * 0.1;
                addedUp += 0.1;
            }
            Check.due("this is not the step added again and again", isDifferent, true);
            // 3 * 0.1 is rounded up: exactly, 3 steps of 0.1 below 0.3 would leave less than 0.
            t.setDouble(0, -0.3);
            t.addRows(4);
            Check.due("the product is rounded first", t.getDouble(67, 0), -0.3 + 3 * 0.1);
            Check.due("so that something is left", t.getDouble(67, 0) > 0, true);
            t.setDouble(0, -0.0);
            t.setStep(0, Double.MIN_VALUE);
            t.addRows(2);
            Check.due("row 0 is a sum, too", t.getDouble(68, 0), 0.0);
            Check.due("the least step", t.getDouble(69, 0), Double.MIN_VALUE);
            t.setStep(0, -Double.MIN_VALUE);
            t.addRows(1);
            Check.due("-0 plus -0", t.getDouble(70, 0), -0.0);
        });
        doc.hold("and for FLOAT it is then rounded to the nearest float.", () -> {
            ColumnTable t = Tables.of(64, 4);
            t.setDouble(0, 1);
            t.setStep(0, Math.scalb(1.0, -24));
            t.addRows(4);
            Check.due("a tie to the lower one", t.getDouble(1, 0), 1.0);
            Check.due("a float", t.getDouble(2, 0), 1 + Math.scalb(1.0, -23));
            Check.due("a tie to the upper one", t.getDouble(3, 0), 1 + Math.scalb(1.0, -22));
            t.setStep(0, 0.1);
            t.addRows(10);
            Check.due("the step itself stays a double", t.getDouble(13, 0), (double) (float) (1 + 9 * 0.1));
            t.setDouble(0, 999999936);
            t.setStep(0, 1);
            t.addRows(97);
            // The floats near 10^9 are 64 apart: up to 10^9 + 32 the nearest one is 10^9.
            Check.due("10^9 + 32 is rounded to 10^9", t.getDouble(14 + 96, 0), 1e9);
            Check.dueThrow("10^9 + 33 is not", ArithmeticException.class, () -> t.addRows(98));
        });
    }

    private static void rows(Sentences doc) {
        doc.hold("Rows are numbered from 0 in the order in which they are added;", () -> {
            ColumnTable t = Tables.of(16, 3);
            Check.due("first", t.addRows(2), 0);
            Check.due("next", t.addRows(1), 2);
            t.setLong(0, 1);
            Check.due("then", t.addRows(5), 3);
            Check.due("the last one", t.getLong(7, 0), 1L);
            t.recluster(0);
            Check.due("numbers do not change", t.isNull(2, 0) + " " + t.getLong(3, 0), "true 1");
            Check.due("and go on", t.addRows(1), 8);
        });
        doc.hold("at most 300 rows can be added.", () -> {
            ColumnTable t = Tables.rising(64, 299);
            Check.dueThrow("two more", IllegalStateException.class, () -> t.addRows(2));
            Check.due("one more", t.addRows(1), 299);
            Check.dueThrow("another one", IllegalStateException.class, () -> t.addRows(1));
            Check.dueThrow("a hundred", IllegalStateException.class, () -> t.addRows(100));
            Check.due("300", t.addedCount() + " " + t.rowCount(), "300 300");
        });
        doc.hold("A row can be deleted; its number is not used again.", () -> {
            ColumnTable t = Tables.rising(4, 3);
            Check.due("the last one is deleted", Tables.drop(t, "a = 2"), 1);
            t.compact();
            Check.due("the next one has a new number", t.addRows(1), 3);
            Check.due("deleted ones stay deleted", t.isDeleted(2) + " " + t.isDeleted(3), "true false");
            t.selectAll();
            t.delete();
            t.compact();
            Check.due("also when all are deleted", t.addRows(1), 4);
            ColumnTable full = Tables.rising(64, 300);
            full.selectAll();
            full.delete();
            full.compact();
            Check.dueThrow("deleted ones count among the 300", IllegalStateException.class, () -> full.addRows(1));
        });
    }
}
