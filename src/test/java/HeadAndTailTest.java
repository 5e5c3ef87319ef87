/** "What it is" and "Not promised", the parts of the document ahead of its sections and behind its promises. */
public final class HeadAndTailTest {
    private static final int MOST_CALLS = 512;

    public static void main(String[] args) throws Exception {
        Sentences doc = new Sentences("What it is", "Not promised");
        doc.at("What it is");
        whatItIs(doc);
        doc.at("Not promised");
        notPromised(doc);
        doc.end();
    }

    private static void whatItIs(Sentences doc) {
        doc.hold("A columnar table. Rows are stored in segments; the columns of a full segment are compressed, each one with"
                + " the smallest of four encodings (plain, run-length, dictionary, delta).", () -> {
            ColumnTable t = Tables.of(8, 5, 5, 5, 3);
            for (int i = 0; i < 8; i++) {
                t.setDouble(0, i * 0.5);
                t.setDouble(1, i / 4);
                t.setDouble(2, i % 2);
                t.setLong(3, i);
                Check.due("nothing is compressed before " + i, t.totalBits(), 0L);
                t.addRows(1);
            }
            Check.due("plain", Tables.code(t, 0, 0), "0 512 8");
            Check.due("run-length", Tables.code(t, 0, 1), "1 136 2");
            Check.due("dictionary", Tables.code(t, 0, 2), "2 136 2");
            Check.due("delta", Tables.code(t, 0, 3), "3 128 8");
            Check.due("all of them", t.totalBits(), 912L);
        });
        doc.hold("Predicates are evaluated directly on the encoded form, with three-valued logic for nulls, and the number of"
                + " comparisons that this takes is reported.", () -> {
            ColumnTable t = Tables.doubles(8, 5, 7, 5, 7, 5, 7, 5, 7, 5, 1);
            Tables.addNulls(t, 1);
            Check.due("two values of a dictionary, one of an open segment", Check.picked(t, "a > 6"), "0 2 4 6 / 3");
            Check.due("a zone", Check.picked(t, "a > 4"), "0 1 2 3 4 5 6 7 / 1");
            Check.due("unknown is not false", Check.picked(t, "not a > 6"), "1 3 5 7 8 / 3");
            Check.due("nor true", Check.picked(t, "a > 6 or not a > 6"), "0 1 2 3 4 5 6 7 8 / 6");
            Check.due("null", Check.picked(t, "a is null"), "9 / 0");
        });
        doc.hold("Selected rows can be summed, grouped, sorted, updated and deleted.", () -> {
            ColumnTable t = Tables.longs(8, 3, 4, 2, 9, 2, 4);
            Check.select(t, "a < 9");
            Check.due("summed", t.sumLong(0), 12L);
            Check.due("grouped", Tables.groups(t, t.group(0, 0)), "1 2 4.0; 0 2 8.0");
            Check.due("sorted", t.sortSelection(0, false), 4);
            Check.due("in order", Tables.selection(t), "1 3 0 4");
            t.setLong(0, 9);
            Check.due("updated", t.update(0), 4);
            Check.due("to 9", Check.select(t, "a = 9"), 5);
            Check.due("deleted", t.delete(), 5);
            Check.due("gone", t.rowCount(), 0);
        });
        doc.hold("An object is used for at most 512 calls after it has been made; what later calls answer is free.",
                HeadAndTailTest::lastCall);
    }

    /** The 512th call is still answered as the first ones are. */
    private static void lastCall() {
        ColumnTable t = new ColumnTable();
        t.feed('a' << 24, 0, 0, 0, 0);
        t.trim(1);
        t.addColumn(3);
        t.setStep(0, 1);
        int made = 4;
        for (int i = 0; i < 3; i++) {
            t.setLong(0, i * 100);
            t.addRows(100);
            made += 2;
        }
        for (; made < MOST_CALLS - 1; made++) {
            Check.due("call " + (made + 1), t.selectAll(), 300);
        }
        Check.due("call 512", t.sumLong(0), 44850L);
    }

    private static void notPromised(Sentences doc) {
        doc.hold("How the state is held inside the object is free, as are the speed of each call, the text of toString and the"
                + " behaviour of equals and hashCode.", () -> {
            ColumnTable t = used();
            ColumnTable twin = used();
            Check.due("a text", t.toString().isEmpty(), false);
            Check.due("equal to itself", t.equals(t), true);
            Check.due("a hash", t.hashCode(), t.hashCode());
            Check.due("they change nothing", Tables.state(t), Tables.state(twin));
        });
        doc.hold("Use of one object from several threads at once is not promised to be safe.", () -> {
            ColumnTable[] tables = new ColumnTable[4];
            Thread[] threads = new Thread[tables.length];
            for (int i = 0; i < threads.length; i++) {
                int at = i;
                threads[i] = new Thread(() -> tables[at] = used());
                threads[i].start();
            }
            String alone = Tables.state(used());
            for (int i = 0; i < threads.length; i++) {
                join(threads[i]);
                Check.due("an object of its own for thread " + i, Tables.state(tables[i]), alone);
            }
        });
        doc.hold("Nothing is promised beyond the answers and state changes described above, and nothing about an object after its"
                + " 512th call.", () -> {
            ColumnTable t = used();
            ColumnTable twin = used();
            String once = answers(t);
            Check.due("answers change nothing", answers(t), once);
            Check.due("and leave the state", Tables.state(t), Tables.state(twin));
            ColumnTable other = new ColumnTable();
            used();
            Check.due("no object changes another", Tables.state(other), Tables.state(new ColumnTable()));
        });
    }

    private static void join(Thread thread) {
        try {
            thread.join();
        } catch (InterruptedException e) {
            throw new IllegalStateException(e);
        }
    }

    /** A table in which every part of the state has been changed. */
    private static ColumnTable used() {
        ColumnTable t = Tables.of(3, 3, 5, 0);
        t.setLong(0, 5);
        t.setStep(0, -2);
        t.setDouble(1, 0.5);
        t.addRows(7);
        Check.outcome(() -> Check.select(t, "a <"));
        Tables.drop(t, "a = 1");
        Check.select(t, "a < 3 and b > 0.25");
        t.sortSelection(0, false);
        t.group(0, 1);
        t.setLong(2, 1);
        t.feed(1, 2, 3, 4, 5);
        return t;
    }

    /** What the methods answer that change nothing. */
    private static String answers(ColumnTable t) {
        StringBuilder s = new StringBuilder();
        s.append(t.columnCount()).append(' ').append(t.type(1)).append(' ').append(t.addedCount()).append(' ');
        s.append(t.rowCount()).append(' ').append(t.isDeleted(2)).append(' ').append(t.isNull(0, 2)).append(' ');
        s.append(t.getLong(1, 0)).append(' ').append(t.getDouble(1, 1)).append(' ').append(t.getFloat(1, 1)).append(' ');
        s.append(t.segmentCount()).append(' ').append(t.segmentOf(4)).append(' ').append(t.segmentRows(0)).append(' ');
        s.append(t.segmentLive(0)).append(' ').append(t.isOpen(2)).append(' ').append(t.encoding(0, 0)).append(' ');
        s.append(t.bits(0, 1)).append(' ').append(t.units(1, 0)).append(' ').append(t.totalBits()).append(' ');
        s.append(t.zoneLow(0, 0)).append(' ').append(t.zoneHigh(0, 0)).append(' ').append(t.errorKind()).append(' ');
        s.append(t.errorPosition()).append(' ').append(t.comparisons()).append(' ').append(t.selectedCount()).append(' ');
        s.append(t.selected(1)).append(' ').append(t.extreme(0, true)).append(' ').append(t.valueCount(0)).append(' ');
        s.append(t.sumLong(0)).append(' ').append(t.sumDouble(1)).append(' ').append(t.groupRow(0)).append(' ');
        s.append(t.groupSize(0)).append(' ').append(t.groupSum(0)).append(' ').append(t.digest());
        return s.toString();
    }
}
