import java.util.NoSuchElementException;

/** Promises 1 to 19, sentence by sentence: the text buffer, columns, the pending row, and rows. */
public final class Promises1To19Test {
    private static final Class<IndexOutOfBoundsException> INDEX = IndexOutOfBoundsException.class;
    private static final Class<IllegalArgumentException> ARGUMENT = IllegalArgumentException.class;
    private static final Class<IllegalStateException> STATE = IllegalStateException.class;
    private static final Class<ArithmeticException> ARITHMETIC = ArithmeticException.class;
    private static final Class<NoSuchElementException> ELEMENT = NoSuchElementException.class;
    private static final String NO_COLUMN = "Throws `IndexOutOfBoundsException` if there is no such column";
    private static final String NO_ROW = "Throws `IndexOutOfBoundsException` if no row with this number was added";
    private static final String NO_CELL = NO_ROW + ", or there is no such column";
    private static final String NO_VALUE = "Throws `NoSuchElementException` if the row is deleted, or the cell is null";

    public static void main(String[] args) throws Exception {
        Sentences doc = new Sentences("promise", 1, 19);
        newObject(doc);
        feed(doc);
        trim(doc);
        addColumn(doc);
        addColumnThrows(doc);
        setSegmentSize(doc);
        columnCountAndType(doc);
        setNull(doc);
        setLong(doc);
        setDouble(doc);
        setStep(doc);
        addRows(doc);
        addRowsThrows(doc);
        counts(doc);
        isDeletedAndIsNull(doc);
        getLong(doc);
        getDouble(doc);
        getFloat(doc);
        doc.end();
    }

    private static void newObject(Sentences doc) {
        doc.at("promise 1");
        doc.hold("Creates a table without columns, rows and segments.", () -> {
            ColumnTable t = new ColumnTable();
            Check.due("columns", t.columnCount(), 0);
            Check.due("rows", t.addedCount() + " " + t.rowCount(), "0 0");
            Check.due("segments", t.segmentCount(), 0);
            Check.dueThrow("column 0", INDEX, () -> t.type(0));
            Check.dueThrow("row 0", INDEX, () -> t.isDeleted(0));
            Check.dueThrow("segment 0", INDEX, () -> t.isOpen(0));
            Check.due("no error", t.errorKind() + " " + t.errorPosition() + " " + t.comparisons(), "0 -1 0");
            Check.due("no bits", t.totalBits(), 0L);
            Check.due("digest of 0, 0, 0 and 0", t.digest(), 19L * 31 * 31 * 31 * 31);
        });
        doc.hold("The segment size is 16, the selection and the text buffer are empty.", () -> {
            Check.due("segment size", new ColumnTable().setSegmentSize(2), 16);
            ColumnTable t = new ColumnTable();
            Check.due("selection", t.selectedCount() + " " + t.selectAll() + " " + t.delete(), "0 0 0");
            Check.dueThrow("selected", INDEX, () -> t.selected(0));
            Check.due("text buffer", t.trim(0), 0);
            Check.dueThrow("one byte", ARGUMENT, () -> t.trim(1));
            Check.dueThrow("no predicate", ARGUMENT, () -> t.select());
            Check.due("at its end", t.errorKind() + " " + t.errorPosition(), "1 0");
        });
    }

    private static ColumnTable withBytes(int bytes) {
        ColumnTable t = new ColumnTable();
        Check.column(t, "b", 0);
        Check.put(t, " ".repeat(bytes));
        return t;
    }

    private static void feed(Sentences doc) {
        doc.at("promise 2");
        String[] parts = {"- `a`: bytes 1 to 4", "- `b`: bytes 5 to 8", "- `c`: bytes 9 to 12", "- `d`: bytes 13 to 16",
            "- `e`: bytes 17 to 20"};
        doc.hold("Appends twenty bytes to the text buffer: the four bytes of each parameter, from the highest to the lowest.", () -> {
            ColumnTable t = new ColumnTable();
            t.feed(0x61626364, 0x65666768, 0, 0, 0);
            t.trim(8);
            t.addColumn(3);
            Check.due("the name's letters in this order", Check.error(t, "abcdefgh = 1"), "none");
            t.feed(0x61626364, 0x65666768, 0x203c2031, 0, 0);
            t.trim(12);
            Check.due("a predicate", t.select(), 0);
            Check.put(t, "abcdefgh");
            t.feed(0x203e2032, 0x207e2020, 0, 0, 0);
            t.trim(18);
            Check.dueThrow("behind other bytes", ARGUMENT, () -> t.select());
            Check.due("at the tilde", t.errorPosition(), 13);
        });
        for (int word = 0; word < 5; word++) {
            int at = word;
            doc.hold(parts[word], () -> {
                for (int place = 0; place < 4; place++) {
                    for (int b : new int[] {0, 126, 127, 128, 255}) {
                        int[] words = {0x20202020, 0x20202020, 0x20202020, 0x20202020, 0x20202020};
                        words[at] = words[at] & ~(255 << 24 - 8 * place) | b << 24 - 8 * place;
                        ColumnTable t = new ColumnTable();
                        t.feed(words[0], words[1], words[2], words[3], words[4]);
                        Check.dueThrow("byte " + b, ARGUMENT, () -> t.select());
                        Check.due("place of the byte " + b, t.errorPosition(), 4 * at + place);
                    }
                }
            });
        }
        doc.hold("Returns the number of bytes in the buffer afterwards.", () -> {
            ColumnTable t = new ColumnTable();
            for (int i = 1; i <= 10; i++) {
                Check.due("feed " + i, t.feed(0, 0, 0, 0, 0), 20 * i);
            }
            t.trim(7);
            Check.due("behind a trim", t.feed(-1, -1, -1, -1, -1), 27);
        });
        doc.hold("Throws `IllegalStateException` if the buffer would have more than 200 bytes", () -> {
            for (int bytes : new int[] {181, 199, 200}) {
                Tables.refused(bytes + " bytes", STATE, () -> withBytes(bytes), t -> t.feed(0, 0, 0, 0, 0));
            }
            Check.due("180 bytes", withBytes(180).feed(0, 0, 0, 0, 0), 200);
            ColumnTable t = withBytes(180);
            Check.put(t, "b", 180);
            Check.dueThrow("20 more", STATE, () -> t.feed(-1, -1, -1, -1, -1));
            Check.due("the bytes are the same", Check.outcome(() -> t.select()), "0");
        });
    }

    private static void trim(Sentences doc) {
        doc.at("promise 3");
        doc.hold("Shortens the text buffer to its first bytes.", () -> {
            ColumnTable t = new ColumnTable();
            Check.put(t, "abcdefg");
            t.trim(3);
            t.addColumn(3);
            Check.due("the first three", Check.error(t, "abc = 1"), "none");
            Check.put(t, "abc = 1 and ~");
            t.trim(7);
            Check.due("cut off", t.select(), 0);
        });
        doc.hold("- `length`: the number of bytes to keep", () -> {
            ColumnTable t = withBytes(40);
            Check.due("all", t.trim(40), 40);
            Check.due("39", t.trim(39), 39);
            Check.due("not 40 any more", Check.outcome(() -> t.trim(40)), "IllegalArgumentException");
            Check.due("feed behind them", t.feed(0, 0, 0, 0, 0), 59);
        });
        doc.hold("Returns length.", () -> {
            ColumnTable t = withBytes(200);
            for (int length : new int[] {200, 199, 20, 1, 0}) {
                Check.due("trim", t.trim(length), length);
            }
        });
        doc.hold("Throws `IllegalArgumentException` if length is negative or greater than the number of bytes in the buffer", () -> {
            for (int length : new int[] {-1, Integer.MIN_VALUE, 6, 200, Integer.MAX_VALUE}) {
                Tables.refused("trim(" + length + ")", ARGUMENT, () -> withBytes(5), t -> t.trim(length));
            }
            Tables.refused("trim(1) of none", ARGUMENT, () -> withBytes(0), t -> t.trim(1));
            Tables.refused("trim(201)", ARGUMENT, () -> withBytes(200), t -> t.trim(201));
            Check.due("trim(5)", withBytes(5).trim(5), 5);
            Check.due("trim(0)", withBytes(0).trim(0), 0);
        });
    }

    private static void addColumn(Sentences doc) {
        doc.at("promise 4");
        doc.hold("Adds a column whose name is the whole text buffer.", () -> {
            ColumnTable t = new ColumnTable();
            Check.put(t, "abcd");
            t.trim(2);
            t.addColumn(3);
            Check.due("ab", Check.error(t, "ab = 1"), "none");
            Check.due("not a", Check.error(t, "a = 1"), "2 at 0");
            Check.due("not abcd", Check.error(t, "abcd = 1"), "2 at 0");
            Check.dueThrow("blanks count", ARGUMENT, () -> {
                t.feed(0x61202020, 0, 0, 0, 0);
                t.trim(2);
                return t.addColumn(3);
            });
        });
        doc.hold("The buffer is empty afterwards in any case.", () -> {
            String[] names = {"b", "a", "a b", "abcdefghi", "and"};
            for (String name : names) {
                for (int type : new int[] {-1, 3, 6}) {
                    ColumnTable t = Tables.of(16, 3);
                    Check.outcome(() -> Check.column(t, name, type));
                    Check.due("bytes behind " + name + " of type " + type, Tables.buffered(t), 0);
                }
            }
            ColumnTable t = Tables.of(16, 3);
            t.addRows(1);
            Check.dueThrow("a row", STATE, () -> Check.column(t, "b", 3));
            Check.due("bytes behind it", Tables.buffered(t), 0);
        });
        doc.hold("- `type`: the type, 0 to 5", () -> {
            for (int type = 0; type <= 5; type++) {
                ColumnTable t = Tables.of(16, type);
                Check.due("type", t.type(0), type);
            }
        });
        doc.hold("Returns the number of the column.", () -> {
            ColumnTable t = new ColumnTable();
            for (int i = 0; i < 8; i++) {
                Check.due("number", Check.column(t, "n" + (char) ('h' - i), i % 6), i);
            }
        });
    }

    private static void addColumnThrows(Sentences doc) {
        doc.hold("Throws `IllegalArgumentException` if type is not 0 to 5, or the buffer is not a name", () -> {
            for (int type : new int[] {-1, 6, 256, Integer.MIN_VALUE, Integer.MAX_VALUE}) {
                Tables.refused("type " + type, ARGUMENT, () -> Tables.of(16, 3), t -> Check.column(t, "b", type));
            }
            String[] wrong = {"", " ", "abcdefghi", "aA", "a1", "a ", " a", "a-b", "\u00e4", "and", "or", "not", "is", "null", "in"};
            for (String name : wrong) {
                Tables.refused("name '" + name + "'", ARGUMENT, () -> Tables.of(16, 3), t -> Check.column(t, name, 3));
            }
        });
        doc.hold("Throws `IllegalStateException` if a column has this name, there are 8 columns, or a row has been added", () -> {
            Tables.refused("a again", STATE, () -> Tables.of(16, 3, 4), t -> Check.column(t, "a", 5));
            Tables.refused("b again", STATE, () -> Tables.of(16, 3, 4), t -> Check.column(t, "b", 4));
            Check.due("an eighth column", Check.column(Tables.of(16, 0, 1, 2, 3, 4, 5, 0), "z", 1), 7);
            Tables.refused("a ninth column", STATE, () -> Tables.of(16, 0, 1, 2, 3, 4, 5, 0, 1), t -> Check.column(t, "z", 1));
            Tables.refused("a row", STATE, () -> Tables.longs(16, 3, 1), t -> Check.column(t, "b", 3));
            Tables.refused("a row that is deleted", STATE, () -> {
                ColumnTable t = Tables.longs(16, 3, 1);
                Tables.drop(t, "a = 1");
                t.compact();
                return t;
            }, t -> Check.column(t, "b", 3));
            ColumnTable none = Tables.of(16, 3);
            Check.dueThrow("rows that were refused", ARGUMENT, () -> none.addRows(0));
            Check.due("do not count", Check.column(none, "b", 3), 1);
        });
    }

    private static void setSegmentSize(Sentences doc) {
        doc.at("promise 5");
        doc.hold("Sets the segment size.", () -> {
            ColumnTable t = Tables.of(3, 3);
            t.addRows(7);
            Check.due("segments", t.segmentCount() + " " + t.segmentRows(0) + " " + t.segmentRows(2), "3 3 1");
            t.compact();
            Check.due("compacted", t.segmentRows(0), 3);
        });
        doc.hold("- `size`: the size, 2 to 64", () -> {
            for (int size : new int[] {2, 3, 63, 64}) {
                ColumnTable t = Tables.of(size, 3);
                t.addRows(size);
                t.addRows(1);
                Check.due("size " + size, t.segmentRows(0) + " " + t.isOpen(0) + " " + t.segmentOf(size), size + " false 1");
            }
        });
        doc.hold("Returns the former size.", () -> {
            ColumnTable t = new ColumnTable();
            Check.due("at first", t.setSegmentSize(2), 16);
            Check.due("2", t.setSegmentSize(64), 2);
            Check.due("64", t.setSegmentSize(64), 64);
            Check.dueThrow("refused", ARGUMENT, () -> t.setSegmentSize(65));
            Check.due("still 64", t.setSegmentSize(3), 64);
        });
        doc.hold("Throws `IllegalArgumentException` if size is not 2 to 64", () -> {
            for (int size : new int[] {1, 0, -1, -2, 65, 300, Integer.MIN_VALUE, Integer.MAX_VALUE}) {
                Tables.refused("size " + size, ARGUMENT, () -> Tables.of(16, 3), t -> t.setSegmentSize(size));
            }
        });
        doc.hold("Throws `IllegalStateException` if a row has been added", () -> {
            Tables.refused("a row", STATE, () -> Tables.longs(16, 3, 1), t -> t.setSegmentSize(16));
            Tables.refused("a row that is deleted", STATE, () -> {
                ColumnTable t = Tables.longs(16, 3, 1);
                Tables.drop(t, "a = 1");
                t.compact();
                return t;
            }, t -> t.setSegmentSize(2));
            ColumnTable none = Tables.of(16, 3);
            Check.outcome(() -> none.addRows(101));
            Check.due("no row", none.setSegmentSize(2), 16);
        });
    }

    private static void columnCountAndType(Sentences doc) {
        doc.at("promise 6");
        doc.hold("Returns the number of columns.", () -> {
            ColumnTable t = new ColumnTable();
            for (int i = 0; i < 8; i++) {
                Check.due("before", t.columnCount(), i);
                Check.column(t, "n" + (char) ('a' + i), 0);
                Check.due("after", t.columnCount(), i + 1);
            }
            Check.outcome(() -> Check.column(t, "z", 0));
            Check.due("refused ones do not count", t.columnCount(), 8);
        });
        doc.at("promise 7");
        doc.hold("Returns its type.", () -> {
            ColumnTable t = Tables.of(16, 5, 4, 3, 2, 1, 0, 0, 5);
            int[] types = {5, 4, 3, 2, 1, 0, 0, 5};
            for (int i = 0; i < 8; i++) {
                Check.due("column " + i, t.type(i), types[i]);
            }
        });
        doc.hold(NO_COLUMN, () -> {
            for (int column : new int[] {-1, 2, 8, Integer.MIN_VALUE, Integer.MAX_VALUE}) {
                Tables.refused("column " + column, INDEX, () -> Tables.of(16, 3, 4), t -> t.type(column));
            }
            Tables.refused("column 0 of none", INDEX, ColumnTable::new, t -> t.type(0));
            Tables.refused("column 8 of eight", INDEX, () -> Tables.of(16, 0, 0, 0, 0, 0, 0, 0, 0), t -> t.type(8));
        });
    }

    private static void noColumn(Sentences doc, java.util.function.ObjIntConsumer<ColumnTable> call) {
        doc.hold(NO_COLUMN, () -> {
            for (int column : new int[] {-1, 2, 7, 8, Integer.MIN_VALUE, Integer.MAX_VALUE}) {
                Tables.refused("column " + column, INDEX, () -> Tables.of(16, 3, 4), t -> call.accept(t, column));
            }
            Tables.refused("column 0 of none", INDEX, ColumnTable::new, t -> call.accept(t, 0));
            Tables.refused("column 8 of eight", INDEX, () -> Tables.of(16, 5, 5, 5, 5, 5, 5, 5, 5), t -> call.accept(t, 8));
        });
    }

    private static void setNull(Sentences doc) {
        doc.at("promise 8");
        doc.hold("Makes a cell of the pending row null.", () -> {
            ColumnTable t = Tables.of(16, 3, 5);
            t.setLong(0, 4);
            t.setLong(1, 5);
            t.setStep(0, 2);
            t.setNull(0);
            t.addRows(2);
            Check.due("null", t.isNull(0, 0) && t.isNull(1, 0), true);
            Check.due("the other cell is not", t.getDouble(0, 1), 5.0);
            t.setLong(0, 1);
            t.addRows(2);
            Check.due("its step stays", t.getLong(3, 0), 3L);
        });
        doc.hold("Returns whether it was null before.", () -> {
            for (int type = 0; type < 6; type++) {
                ColumnTable t = Tables.of(16, type);
                Check.due("at first", t.setNull(0), true);
                t.setLong(0, 0);
                Check.due("with the value 0", t.setNull(0), false);
                Check.due("twice", t.setNull(0), true);
            }
        });
        noColumn(doc, ColumnTable::setNull);
    }

    private static void setLong(Sentences doc) {
        doc.at("promise 9");
        doc.hold("Sets a cell of the pending row.", () -> {
            ColumnTable t = Tables.of(16, 3, 3);
            t.setLong(0, 4);
            t.setLong(1, 5);
            t.setLong(0, 6);
            t.addRows(1);
            Check.due("the cells", t.getLong(0, 0) + " " + t.getLong(0, 1), "6 5");
            t.setLong(0, 7);
            Check.due("not those of rows", t.getLong(0, 0), 6L);
        });
        doc.hold("- `value`: the value, which is converted to the type of the column", () -> {
            ColumnTable t = Tables.of(16, 0, 1, 2, 3, 4, 5);
            for (int c = 0; c < 6; c++) {
                t.setLong(c, 1);
            }
            t.addRows(1);
            for (int c = 0; c < 6; c++) {
                Check.due("column " + c, t.getDouble(0, c), 1.0);
            }
        });
        doc.hold("Returns the value of the cell, converted to a long.", () -> {
            ColumnTable t = Tables.of(16, 0, 1, 2, 3, 4, 5);
            Check.due("true", t.setLong(0, 1), 1L);
            Check.due("SHORT", t.setLong(1, -32768), -32768L);
            Check.due("CHAR", t.setLong(2, 65535), 65535L);
            Check.due("LONG", t.setLong(3, Long.MIN_VALUE), Long.MIN_VALUE);
            Check.due("FLOAT, rounded", t.setLong(4, 999999999), 1000000000L);
            Check.due("DOUBLE", t.setLong(5, 999999999), 999999999L);
        });
        noColumn(doc, (t, column) -> t.setLong(column, 2));
        doc.hold("Throws `IllegalArgumentException` if the value cannot be converted", () -> {
            long[][] wrong = {{0, -1}, {0, 2}, {1, -32769}, {1, 32768}, {2, -1}, {2, 65536}, {4, 1000000001}, {4, -1000000001},
                {5, 1000000001}, {5, -1000000001}, {5, Long.MIN_VALUE}, {4, Long.MAX_VALUE}};
            for (long[] pair : wrong) {
                Tables.refused(pair[1] + " for type " + pair[0], ARGUMENT, () -> withPending((int) pair[0]),
                        t -> t.setLong(0, pair[1]));
            }
            long[][] right = {{0, 0}, {0, 1}, {1, -32768}, {1, 32767}, {2, 0}, {2, 65535}, {3, Long.MIN_VALUE},
                {3, Long.MAX_VALUE}, {4, 1000000000}, {4, -1000000000}, {5, 1000000000}, {5, -1000000000}};
            for (long[] pair : right) {
                Check.due(pair[1] + " for type " + pair[0], withPending((int) pair[0]).setLong(0, pair[1]), pair[1]);
            }
        });
    }

    private static ColumnTable withPending(int type) {
        ColumnTable t = Tables.of(16, type);
        t.setLong(0, 1);
        return t;
    }

    private static void setDouble(Sentences doc) {
        doc.at("promise 10");
        doc.hold("Sets a cell of the pending row.", () -> {
            ColumnTable t = Tables.of(16, 5, 3);
            t.setDouble(0, 0.5);
            t.setDouble(1, 7.5);
            t.addRows(1);
            t.setDouble(0, 0.75);
            Check.due("the cells", t.getDouble(0, 0) + " " + t.getLong(0, 1), "0.5 7");
        });
        doc.hold("- `value`: the value, which is converted to the type of the column", () -> {
            ColumnTable t = Tables.of(16, 1, 2, 3, 4, 5);
            for (int c = 0; c < 5; c++) {
                t.setDouble(c, 1.1);
            }
            t.addRows(1);
            Check.due("integer types", t.getDouble(0, 0) + " " + t.getDouble(0, 1) + " " + t.getDouble(0, 2), "1.0 1.0 1.0");
            Check.due("FLOAT", t.getDouble(0, 3), (double) 1.1f);
            Check.due("DOUBLE", t.getDouble(0, 4), 1.1);
        });
        doc.hold("Returns the value of the cell, converted to a double.", () -> {
            ColumnTable t = Tables.of(16, 1, 2, 3, 4, 5);
            Check.due("SHORT", t.setDouble(0, -1.9), -1.0);
            Check.due("CHAR", t.setDouble(1, -0.9), 0.0);
            Check.due("LONG", t.setDouble(2, -1e9), -1e9);
            Check.due("FLOAT", t.setDouble(3, 0.1), (double) 0.1f);
            Check.due("FLOAT, rounded to 10^9", t.setDouble(3, Math.nextDown(1e9)), 1e9);
            Check.due("DOUBLE", t.setDouble(4, -0.0), -0.0);
        });
        noColumn(doc, (t, column) -> t.setDouble(column, 2e9));
        doc.hold("Throws `IllegalArgumentException` if the value cannot be converted", () -> {
            double[][] wrong = {{0, 0}, {0, 1}, {1, 32768}, {1, -32769}, {2, -1}, {2, 65536}, {3, Tables.BEYOND_LARGEST},
                {3, -Tables.BEYOND_LARGEST}, {4, Tables.BEYOND_LARGEST}, {5, -Tables.BEYOND_LARGEST}, {1, Double.NaN},
                {3, Double.NaN}, {4, Double.NaN}, {5, Double.NaN}, {5, Double.POSITIVE_INFINITY}, {3, Double.NEGATIVE_INFINITY}};
            for (double[] pair : wrong) {
                Tables.refused(pair[1] + " for type " + pair[0], ARGUMENT, () -> withPending((int) pair[0]),
                        t -> t.setDouble(0, pair[1]));
            }
        });
    }

    private static void setStep(Sentences doc) {
        doc.at("promise 11");
        doc.hold("Sets the step of a column in the pending row.", () -> {
            ColumnTable t = Tables.of(16, 3, 5);
            t.setLong(0, 1);
            t.setLong(1, 1);
            t.setStep(0, 3);
            t.setStep(1, 0.5);
            t.setStep(0, -2);
            t.addRows(2);
            Check.due("the latest step", t.getLong(1, 0) + " " + t.getDouble(1, 1), "-1 1.5");
            t.addRows(2);
            Check.due("it stays", t.getLong(3, 0), -1L);
        });
        doc.hold("- `step`: the step; for an integer type it is rounded toward 0", () -> {
            for (int type = 1; type <= 3; type++) {
                ColumnTable t = Tables.of(16, type);
                double[][] pairs = {{1.9, 1}, {-1.9, -1}, {0.9, 0}, {-0.9, 0}, {-0.0, 0}, {1e6, 1e6}, {-999999.5, -999999}};
                for (double[] pair : pairs) {
                    Check.due("" + pair[0], t.setStep(0, pair[0]), pair[1]);
                }
                t.setStep(0, 2.9);
                t.setLong(0, 10);
                t.addRows(3);
                Check.due("rows", t.getLong(2, 0), 14L);
            }
        });
        doc.hold("Returns the new step.", () -> {
            ColumnTable t = Tables.of(16, 4, 5);
            for (double step : new double[] {0.1, -0.1, 0, Double.MIN_VALUE, 1e6, -1e6, 999999.999}) {
                Check.due("FLOAT", t.setStep(0, step), step);
                Check.due("DOUBLE", t.setStep(1, step), step);
            }
        });
        noColumn(doc, (t, column) -> t.setStep(column, 2e9));
        doc.hold("Throws `IllegalArgumentException` if the column is BOOLEAN, or the absolute value of step is greater than 1000000",
                () -> {
            for (double step : new double[] {0, -0.0, 1, 2e9}) {
                Tables.refused("BOOLEAN " + step, ARGUMENT, () -> withPending(0), t -> t.setStep(0, step));
            }
            double beyond = Math.nextUp(1e6);
            for (int type = 1; type <= 5; type++) {
                int of = type;
                Check.due("1000000", withPending(type).setStep(0, 1e6), 1e6);
                Check.due("-1000000", withPending(type).setStep(0, -1e6), -1e6);
                for (double step : new double[] {beyond, -beyond, 1000000.5, 1e300, Double.POSITIVE_INFINITY, Double.NaN}) {
                    Tables.refused("type " + type + " " + step, ARGUMENT, () -> withPending(of), t -> t.setStep(0, step));
                }
            }
        });
    }

    private static void addRows(Sentences doc) {
        doc.at("promise 12");
        doc.hold("Adds rows as the pending row and its steps say.", () -> {
            ColumnTable t = Tables.of(16, 3, 4, 0, 1);
            t.setLong(0, 10);
            t.setStep(0, -5);
            t.setDouble(1, 0.5);
            t.setStep(1, 0.25);
            t.setLong(2, 1);
            t.addRows(3);
            for (int row = 0; row < 3; row++) {
                Check.due("row " + row, t.getLong(row, 0) + " " + t.getDouble(row, 1) + " " + t.getLong(row, 2) + " " + t.isNull(row, 3),
                        (10 - 5 * row) + " " + (0.5 + 0.25 * row) + " 1 true");
            }
        });
        doc.hold("The pending row does not change.", () -> {
            ColumnTable t = Tables.of(16, 3);
            t.setLong(0, 10);
            t.setStep(0, 1);
            t.addRows(3);
            t.addRows(3);
            Check.due("the same values again", t.getLong(3, 0) + " " + t.getLong(5, 0), "10 12");
            Check.due("its cell", t.setNull(0), false);
        });
        doc.hold("- `count`: the number of rows, 1 to 100", () -> {
            ColumnTable t = Tables.of(16, 3);
            t.addRows(1);
            Check.due("1", t.addedCount(), 1);
            t.addRows(100);
            Check.due("100", t.addedCount(), 101);
        });
        doc.hold("Returns the number of the first of these rows.", () -> {
            ColumnTable t = Tables.of(16, 3);
            Check.due("first", t.addRows(3), 0);
            Check.due("then", t.addRows(1), 3);
            Check.due("then", t.addRows(100), 4);
            t.selectAll();
            t.delete();
            t.compact();
            Check.due("behind deleted ones", t.addRows(1), 104);
        });
    }

    private static ColumnTable stepped(int type, double value, double step) {
        ColumnTable t = Tables.of(16, type);
        t.setDouble(0, value);
        t.setStep(0, step);
        return t;
    }

    private static ColumnTable steppedLong(long value, double step) {
        ColumnTable t = Tables.of(16, 3);
        t.setLong(0, value);
        t.setStep(0, step);
        return t;
    }

    private static void addRowsThrows(Sentences doc) {
        doc.hold("Throws `IllegalArgumentException` if count is not 1 to 100", () -> {
            for (int count : new int[] {0, -1, 101, 300, Integer.MIN_VALUE, Integer.MAX_VALUE}) {
                Tables.refused("count " + count, ARGUMENT, () -> Tables.rising(16, 3), t -> t.addRows(count));
            }
        });
        doc.hold("Throws `IllegalStateException` if there is no column, or more than 300 rows would have been added", () -> {
            Tables.refused("no column", STATE, ColumnTable::new, t -> t.addRows(1));
            Tables.refused("201 and 100 rows", STATE, () -> Tables.rising(16, 201), t -> t.addRows(100));
            Tables.refused("300 and 1 row", STATE, () -> Tables.rising(16, 300), t -> t.addRows(1));
            Check.due("200 and 100 rows", Tables.rising(16, 200).addRows(100), 200);
            Check.due("299 and 1 row", Tables.rising(16, 299).addRows(1), 299);
            Tables.refused("300 deleted rows and 1", STATE, () -> {
                ColumnTable t = Tables.rising(16, 300);
                t.selectAll();
                t.delete();
                t.compact();
                return t;
            }, t -> t.addRows(1));
        });
        doc.hold("Throws `ArithmeticException` if one of the values would not be in the range of its type, or, for a floating type,"
                + " its absolute value would be greater than 10^9", () -> {
            Tables.refused("SHORT 32768", ARITHMETIC, () -> stepped(1, 32766, 1), t -> t.addRows(3));
            Check.due("SHORT 32767", stepped(1, 32766, 1).addRows(2), 0);
            Tables.refused("SHORT -32769", ARITHMETIC, () -> stepped(1, -32766, -1), t -> t.addRows(4));
            Check.due("SHORT -32768", stepped(1, -32766, -1).addRows(3), 0);
            Tables.refused("SHORT, back in range after 2^16", ARITHMETIC, () -> stepped(1, 0, 65536), t -> t.addRows(2));
            Tables.refused("CHAR 65536", ARITHMETIC, () -> stepped(2, 65535, 1), t -> t.addRows(2));
            Tables.refused("CHAR -1", ARITHMETIC, () -> stepped(2, 1, -1), t -> t.addRows(3));
            Check.due("CHAR 0", stepped(2, 1, -1).addRows(2), 0);
            Tables.refused("LONG 2^63", ARITHMETIC, () -> steppedLong(Long.MAX_VALUE - 99 * 1000000L + 1, 1e6), t -> t.addRows(100));
            Check.due("LONG 2^63 - 1", steppedLong(Long.MAX_VALUE - 99 * 1000000L, 1e6).addRows(100), 0);
            Tables.refused("LONG -2^63 - 1", ARITHMETIC, () -> steppedLong(Long.MIN_VALUE, -1), t -> t.addRows(2));
            Check.due("LONG -2^63", steppedLong(Long.MIN_VALUE + 1, -1).addRows(2), 0);
            Tables.refused("DOUBLE", ARITHMETIC, () -> stepped(5, 1e9, 1e-6), t -> t.addRows(2));
            double half = Math.scalb(1.0, -24);
            Check.due("DOUBLE, a tie to 10^9", stepped(5, 1e9, half).addRows(2), 0);
            Tables.refused("DOUBLE, more than a tie", ARITHMETIC, () -> stepped(5, 1e9, Math.nextUp(half)), t -> t.addRows(2));
            Tables.refused("DOUBLE below", ARITHMETIC, () -> stepped(5, -999999999, -1), t -> t.addRows(3));
            Check.due("DOUBLE -10^9", stepped(5, -999999999, -1).addRows(2), 0);
            Tables.refused("FLOAT", ARITHMETIC, () -> stepped(4, 1e9, 33), t -> t.addRows(2));
            Check.due("FLOAT, rounded to 10^9", stepped(4, 1e9, 32).addRows(2), 0);
            Tables.refused("FLOAT below", ARITHMETIC, () -> stepped(4, -1e9, -33), t -> t.addRows(2));
            Tables.refused("the second column alone", ARITHMETIC, () -> {
                ColumnTable t = Tables.of(16, 3, 1);
                t.setLong(0, 1);
                t.setLong(1, 32767);
                t.setStep(1, 1);
                return t;
            }, t -> t.addRows(2));
        });
    }

    private static void counts(Sentences doc) {
        doc.at("promise 13");
        doc.hold("Returns how many rows have been added so far, including deleted ones.", () -> {
            ColumnTable t = Tables.rising(4, 5);
            Check.due("5", t.addedCount(), 5);
            Tables.drop(t, "a > 2");
            Check.due("deleted", t.addedCount(), 5);
            t.compact();
            Check.due("compacted", t.addedCount(), 5);
            Check.outcome(() -> t.addRows(101));
            Check.due("refused", t.addedCount(), 5);
            Check.due("300", Tables.rising(4, 300).addedCount(), 300);
        });
        doc.at("promise 14");
        doc.hold("Returns the number of rows that are not deleted.", () -> {
            ColumnTable t = Tables.rising(4, 5);
            Check.due("5", t.rowCount(), 5);
            Tables.drop(t, "a > 2");
            Check.due("3", t.rowCount(), 3);
            t.compact();
            t.addRows(2);
            Check.due("5 again", t.rowCount(), 5);
            t.selectAll();
            t.delete();
            Check.due("none", t.rowCount(), 0);
        });
    }

    /** Rows 0 to 3 of a type: 1 deleted, null, 0, 1; a second column with the numbers of the rows. */
    private static ColumnTable fourRows(int type) {
        ColumnTable t = Tables.of(4, type, 3);
        t.setLong(0, 1);
        t.setLong(1, 0);
        t.addRows(1);
        t.setNull(0);
        t.setLong(1, 1);
        t.addRows(1);
        for (int i = 2; i < 4; i++) {
            t.setLong(0, i - 2);
            t.setLong(1, i);
            t.addRows(1);
        }
        Tables.drop(t, "b = 0");
        return t;
    }

    private static void isDeletedAndIsNull(Sentences doc) {
        doc.at("promise 15");
        doc.hold("Returns whether it is deleted.", () -> {
            ColumnTable t = fourRows(3);
            Check.due("deleted", t.isDeleted(0), true);
            Check.due("not deleted", t.isDeleted(1) || t.isDeleted(3), false);
            t.compact();
            Check.due("after compacting", t.isDeleted(0) + " " + t.isDeleted(1), "true false");
        });
        noRow(doc, NO_ROW, ColumnTable::isDeleted);
        doc.at("promise 16");
        doc.hold("Returns whether the cell is null.", () -> {
            for (int type = 0; type < 6; type++) {
                ColumnTable t = fourRows(type);
                Check.due("type " + type, t.isNull(1, 0) + " " + t.isNull(2, 0) + " " + t.isNull(3, 0) + " " + t.isNull(1, 1),
                        "true false false false");
            }
        });
        noCell(doc, (t, cell) -> t.isNull(cell[0], cell[1]));
        doc.hold("Throws `NoSuchElementException` if the row is deleted", () -> {
            Tables.refused("deleted", ELEMENT, () -> fourRows(3), t -> t.isNull(0, 0));
            Tables.refused("deleted, the other column", ELEMENT, () -> fourRows(3), t -> t.isNull(0, 1));
            Check.due("not deleted", fourRows(3).isNull(1, 0), true);
        });
    }

    private static void noRow(Sentences doc, String words, java.util.function.ObjIntConsumer<ColumnTable> call) {
        doc.hold(words, () -> {
            for (int row : new int[] {-1, 4, 299, 300, Integer.MIN_VALUE, Integer.MAX_VALUE}) {
                Tables.refused("row " + row, INDEX, () -> fourRows(3), t -> call.accept(t, row));
            }
            Tables.refused("row 0 of none", INDEX, () -> Tables.of(16, 3), t -> call.accept(t, 0));
            Tables.refused("row 300 of 300", INDEX, () -> Tables.rising(64, 300), t -> call.accept(t, 300));
        });
    }

    private static void noCell(Sentences doc, java.util.function.BiConsumer<ColumnTable, int[]> call) {
        noRow(doc, NO_CELL, (t, row) -> call.accept(t, new int[] {row, 0}));
        doc.hold(NO_CELL, () -> {
            for (int column : new int[] {-1, 2, 8, Integer.MIN_VALUE, Integer.MAX_VALUE}) {
                Tables.refused("column " + column, INDEX, () -> fourRows(3), t -> call.accept(t, new int[] {3, column}));
                Tables.refused("column " + column + " of a deleted row", INDEX, () -> fourRows(3),
                        t -> call.accept(t, new int[] {0, column}));
            }
        });
    }

    private static void noValue(Sentences doc, java.util.function.BiConsumer<ColumnTable, int[]> call) {
        doc.hold(NO_VALUE, () -> {
            for (int type = 0; type < 6; type++) {
                int of = type;
                Tables.refused("deleted, type " + type, ELEMENT, () -> fourRows(of), t -> call.accept(t, new int[] {0, 0}));
                Tables.refused("null, type " + type, ELEMENT, () -> fourRows(of), t -> call.accept(t, new int[] {1, 0}));
            }
        });
    }

    private static void getLong(Sentences doc) {
        doc.at("promise 17");
        doc.hold("Returns the value of the cell, converted to a long.", () -> {
            for (int type = 0; type < 6; type++) {
                ColumnTable t = fourRows(type);
                Check.due("type " + type, t.getLong(2, 0) + " " + t.getLong(3, 0), "0 1");
            }
            ColumnTable d = Tables.doubles(16, 5, -0.99, 1e9, -2.5);
            Check.due("toward 0", d.getLong(0, 0) + " " + d.getLong(1, 0) + " " + d.getLong(2, 0), "0 1000000000 -2");
            ColumnTable l = Tables.longs(16, 3, Long.MIN_VALUE, Long.MAX_VALUE);
            Check.due("all longs", l.getLong(0, 0) + " " + l.getLong(1, 0), Long.MIN_VALUE + " " + Long.MAX_VALUE);
        });
        noCell(doc, (t, cell) -> t.getLong(cell[0], cell[1]));
        noValue(doc, (t, cell) -> t.getLong(cell[0], cell[1]));
    }

    private static void getDouble(Sentences doc) {
        doc.at("promise 18");
        doc.hold("Returns the value of the cell, converted to a double.", () -> {
            for (int type = 0; type < 6; type++) {
                ColumnTable t = fourRows(type);
                Check.due("type " + type, t.getDouble(2, 0) + " " + t.getDouble(3, 0), "0.0 1.0");
            }
            Check.due("-0", Tables.doubles(16, 4, -0.0).getDouble(0, 0), -0.0);
            Check.due("a LONG", Tables.longs(16, 3, (1L << 53) + 1).getDouble(0, 0), 9007199254740992.0);
        });
        noCell(doc, (t, cell) -> t.getDouble(cell[0], cell[1]));
        noValue(doc, (t, cell) -> t.getDouble(cell[0], cell[1]));
    }

    private static void getFloat(Sentences doc) {
        doc.at("promise 19");
        doc.hold("Returns the value of the cell, converted to a float: false is 0, true is 1, any other value becomes the nearest float"
                + " (of two equally near ones the one whose last bit is 0).", () -> {
            for (int type = 0; type < 6; type++) {
                ColumnTable t = fourRows(type);
                Check.due("type " + type, t.getFloat(2, 0) + " " + t.getFloat(3, 0), "0.0 1.0");
            }
            ColumnTable l = Tables.longs(16, 3, 16777217, 16777219, (1L << 60) + (1L << 36) + 1, (1L << 60) + (1L << 36),
                    Long.MAX_VALUE, Long.MIN_VALUE);
            Check.due("a tie to the lower one", l.getFloat(0, 0), 16777216f);
            Check.due("a tie to the upper one", l.getFloat(1, 0), 16777220f);
            Check.due("more than a tie, which a double would not show", l.getFloat(2, 0), Math.scalb(1f, 60) + Math.scalb(1f, 37));
            Check.due("a tie", l.getFloat(3, 0), Math.scalb(1f, 60));
            Check.due("the greatest long", l.getFloat(4, 0), Math.scalb(1f, 63));
            Check.due("the least long", l.getFloat(5, 0), -Math.scalb(1f, 63));
            double gap = Math.scalb(1.0, -24);
            ColumnTable d = Tables.doubles(16, 5, 0.1, 1 + gap, 1 + 3 * gap, Math.nextUp(1 + gap), -0.0, Float.MIN_VALUE / 2.0,
                    -Double.MIN_VALUE, Math.nextDown(1e9));
            Check.due("0.1", d.getFloat(0, 0), 0.1f);
            Check.due("a tie to the lower one", d.getFloat(1, 0), 1f);
            Check.due("a tie to the upper one", d.getFloat(2, 0), (float) (1 + 4 * gap));
            Check.due("more than a tie", d.getFloat(3, 0), Math.nextUp(1f));
            Check.due("-0", d.getFloat(4, 0), -0f);
            Check.due("half of the least float", d.getFloat(5, 0), 0f);
            Check.due("hardly less than 0", d.getFloat(6, 0), -0f);
            Check.due("just below 10^9", d.getFloat(7, 0), 1e9f);
        });
        noCell(doc, (t, cell) -> t.getFloat(cell[0], cell[1]));
        noValue(doc, (t, cell) -> t.getFloat(cell[0], cell[1]));
    }
}
